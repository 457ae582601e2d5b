theorem d_M_skip_7 : decode b_M_skip 7 = .ok (.if_icmp .ge 20, 3) := by decide +kernel
theorem d_M_skip_10 : decode b_M_skip 10 = .ok (.aload_n 0, 1) := by decide +kernel
theorem d_M_skip_11 : decode b_M_skip 11 = .ok (.iload_n 2, 1) := by decide +kernel
theorem d_M_skip_12 : decode b_M_skip 12 = .ok (.invokevirtual 29, 3) := by decide +kernel
theorem d_M_skip_15 : decode b_M_skip 15 = .ok (.invokestatic 33, 3) := by decide +kernel
theorem d_M_skip_18 : decode b_M_skip 18 = .ok (.ifCond .eq 9, 3) := by decide +kernel
theorem d_M_skip_21 : decode b_M_skip 21 = .ok (.iinc 2 1, 3) := by decide +kernel
theorem d_M_skip_24 : decode b_M_skip 24 = .ok (.goto (-22), 3) := by decide +kernel
theorem d_M_skip_27 : decode b_M_skip 27 = .ok (.iload_n 2, 1) := by decide +kernel
theorem d_M_skip_28 : decode b_M_skip 28 = .ok (.ireturn, 1) := by decide +kernel
theorem d_M_behind_0 : decode b_M_behind 0 = .ok (.iload_n 1, 1) := by decide +kernel
theorem d_M_behind_1 : decode b_M_behind 1 = .ok (.iconst 2, 1) := by decide +kernel
theorem d_M_behind_2 : decode b_M_behind 2 = .ok (.iadd, 1) := by decide +kernel
theorem d_M_behind_3 : decode b_M_behind 3 = .ok (.istore_n 2, 1) := by decide +kernel
theorem d_M_behind_4 : decode b_M_behind 4 = .ok (.aload_n 0, 1) := by decide +kernel
theorem d_M_behind_5 : decode b_M_behind 5 = .ok (.iload_n 1, 1) := by decide +kernel
theorem d_M_behind_6 : decode b_M_behind 6 = .ok (.iconst 1, 1) := by decide +kernel
theorem d_M_behind_7 : decode b_M_behind 7 = .ok (.iadd, 1) := by decide +kernel
theorem d_M_behind_8 : decode b_M_behind 8 = .ok (.invokevirtual 29, 3) := by decide +kernel
theorem d_M_behind_11 : decode b_M_behind 11 = .ok (.bipush 10, 2) := by decide +kernel
theorem d_M_behind_13 : decode b_M_behind 13 = .ok (.if_icmp .ne 29, 3) := by decide +kernel
theorem d_M_behind_16 : decode b_M_behind 16 = .ok (.aload_n 0, 1) := by decide +kernel
theorem d_M_behind_17 : decode b_M_behind 17 = .ok (.iload_n 2, 1) := by decide +kernel
theorem d_M_behind_18 : decode b_M_behind 18 = .ok (.invokevirtual 29, 3) := by decide +kernel
theorem d_M_behind_21 : decode b_M_behind 21 = .ok (.bipush 32, 2) := by decide +kernel
theorem d_M_behind_23 : decode b_M_behind 23 = .ok (.if_icmp .eq 13, 3) := by decide +kernel
theorem d_M_behind_26 : decode b_M_behind 26 = .ok (.aload_n 0, 1) := by decide +kernel
theorem d_M_behind_27 : decode b_M_behind 27 = .ok (.iload_n 2, 1) := by decide +kernel
theorem d_M_behind_28 : decode b_M_behind 28 = .ok (.invokevirtual 29, 3) := by decide +kernel
theorem d_M_behind_31 : decode b_M_behind 31 = .ok (.bipush 9, 2) := by decide +kernel
theorem d_M_behind_33 : decode b_M_behind 33 = .ok (.if_icmp .ne 9, 3) := by decide +kernel
theorem d_M_behind_36 : decode b_M_behind 36 = .ok (.iinc 2 1, 3) := by decide +kernel
theorem d_M_behind_39 : decode b_M_behind 39 = .ok (.goto (-23), 3) := by decide +kernel
theorem d_M_behind_42 : decode b_M_behind 42 = .ok (.iload_n 2, 1) := by decide +kernel
theorem d_M_behind_43 : decode b_M_behind 43 = .ok (.aload_n 0, 1) := by decide +kernel
theorem d_M_behind_44 : decode b_M_behind 44 = .ok (.getfield 25, 3) := by decide +kernel
theorem d_M_behind_47 : decode b_M_behind 47 = .ok (.if_icmp .ge 7, 3) := by decide +kernel
theorem d_M_behind_50 : decode b_M_behind 50 = .ok (.iload_n 2, 1) := by decide +kernel
theorem d_M_behind_51 : decode b_M_behind 51 = .ok (.goto 7, 3) := by decide +kernel
theorem d_M_behind_54 : decode b_M_behind 54 = .ok (.aload_n 0, 1) := by decide +kernel
theorem d_M_behind_55 : decode b_M_behind 55 = .ok (.getfield 25, 3) := by decide +kernel
theorem d_M_behind_58 : decode b_M_behind 58 = .ok (.ireturn, 1) := by decide +kernel
theorem d_M_bare_0 : decode b_M_bare 0 = .ok (.iload_n 1, 1) := by decide +kernel
theorem d_M_bare_1 : decode b_M_bare 1 = .ok (.istore_n 2, 1) := by decide +kernel
theorem d_M_bare_2 : decode b_M_bare 2 = .ok (.iload_n 2, 1) := by decide +kernel
theorem d_M_bare_3 : decode b_M_bare 3 = .ok (.aload_n 0, 1) := by decide +kernel
theorem d_M_bare_4 : decode b_M_bare 4 = .ok (.getfield 25, 3) := by decide +kernel
theorem d_M_bare_7 : decode b_M_bare 7 = .ok (.if_icmp .ge 39, 3) := by decide +kernel
theorem d_M_bare_10 : decode b_M_bare 10 = .ok (.aload_n 0, 1) := by decide +kernel
theorem d_M_bare_11 : decode b_M_bare 11 = .ok (.iload_n 2, 1) := by decide +kernel
theorem d_M_bare_12 : decode b_M_bare 12 = .ok (.invokevirtual 29, 3) := by decide +kernel
theorem d_M_bare_15 : decode b_M_bare 15 = .ok (.invokestatic 33, 3) := by decide +kernel
theorem d_M_bare_18 : decode b_M_bare 18 = .ok (.ifCond .ne 28, 3) := by decide +kernel
theorem d_M_bare_21 : decode b_M_bare 21 = .ok (.aload_n 0, 1) := by decide +kernel
theorem d_M_bare_22 : decode b_M_bare 22 = .ok (.iload_n 2, 1) := by decide +kernel
theorem d_M_bare_23 : decode b_M_bare 23 = .ok (.invokevirtual 29, 3) := by decide +kernel
theorem d_M_bare_26 : decode b_M_bare 26 = .ok (.bipush 92, 2) := by decide +kernel
theorem d_M_bare_28 : decode b_M_bare 28 = .ok (.if_icmp .ne 11, 3) := by decide +kernel
theorem d_M_bare_31 : decode b_M_bare 31 = .ok (.aload_n 0, 1) := by decide +kernel
theorem d_M_bare_32 : decode b_M_bare 32 = .ok (.iload_n 2, 1) := by decide +kernel
theorem d_M_bare_33 : decode b_M_bare 33 = .ok (.invokevirtual 37, 3) := by decide +kernel
theorem d_M_bare_36 : decode b_M_bare 36 = .ok (.goto 6, 3) := by decide +kernel
theorem d_M_bare_39 : decode b_M_bare 39 = .ok (.iload_n 2, 1) := by decide +kernel
theorem d_M_bare_40 : decode b_M_bare 40 = .ok (.iconst 1, 1) := by decide +kernel
theorem d_M_bare_41 : decode b_M_bare 41 = .ok (.iadd, 1) := by decide +kernel
theorem d_M_bare_42 : decode b_M_bare 42 = .ok (.istore_n 2, 1) := by decide +kernel
theorem d_M_bare_43 : decode b_M_bare 43 = .ok (.goto (-41), 3) := by decide +kernel
theorem d_M_bare_46 : decode b_M_bare 46 = .ok (.iload_n 2, 1) := by decide +kernel
theorem d_M_bare_47 : decode b_M_bare 47 = .ok (.ireturn, 1) := by decide +kernel
theorem d_M_closing_0 : decode b_M_closing 0 = .ok (.iconst 1, 1) := by decide +kernel
theorem d_M_closing_1 : decode b_M_closing 1 = .ok (.istore_n 2, 1) := by decide +kernel
theorem d_M_closing_2 : decode b_M_closing 2 = .ok (.iload_n 1, 1) := by decide +kernel
theorem d_M_closing_3 : decode b_M_closing 3 = .ok (.iconst 1, 1) := by decide +kernel
theorem d_M_closing_4 : decode b_M_closing 4 = .ok (.iadd, 1) := by decide +kernel
theorem d_M_closing_5 : decode b_M_closing 5 = .ok (.istore_n 3, 1) := by decide +kernel
theorem d_M_closing_6 : decode b_M_closing 6 = .ok (.iload_n 3, 1) := by decide +kernel
theorem d_M_closing_7 : decode b_M_closing 7 = .ok (.aload_n 0, 1) := by decide +kernel
theorem d_M_closing_8 : decode b_M_closing 8 = .ok (.getfield 25, 3) := by decide +kernel
theorem d_M_closing_11 : decode b_M_closing 11 = .ok (.if_icmp .ge 60, 3) := by decide +kernel
theorem d_M_closing_14 : decode b_M_closing 14 = .ok (.aload_n 0, 1) := by decide +kernel
theorem d_M_closing_15 : decode b_M_closing 15 = .ok (.iload_n 3, 1) := by decide +kernel
theorem d_M_closing_16 : decode b_M_closing 16 = .ok (.invokevirtual 29, 3) := by decide +kernel
theorem d_M_closing_19 : decode b_M_closing 19 = .ok (.istore 4, 2) := by decide +kernel
theorem d_M_closing_21 : decode b_M_closing 21 = .ok (.iload_n 2, 1) := by decide +kernel
theorem d_M_closing_22 : decode b_M_closing 22 = .ok (.iload 4, 2) := by decide +kernel
theorem d_M_closing_24 : decode b_M_closing 24 = .ok (.bipush 123, 2) := by decide +kernel
theorem d_M_closing_26 : decode b_M_closing 26 = .ok (.if_icmp .ne 7, 3) := by decide +kernel
theorem d_M_closing_29 : decode b_M_closing 29 = .ok (.iconst 1, 1) := by decide +kernel
theorem d_M_closing_30 : decode b_M_closing 30 = .ok (.goto 15, 3) := by decide +kernel
theorem d_M_closing_33 : decode b_M_closing 33 = .ok (.iload 4, 2) := by decide +kernel
theorem d_M_closing_35 : decode b_M_closing 35 = .ok (.bipush 125, 2) := by decide +kernel
theorem d_M_closing_37 : decode b_M_closing 37 = .ok (.if_icmp .ne 7, 3) := by decide +kernel
theorem d_M_closing_40 : decode b_M_closing 40 = .ok (.iconst (-1), 1) := by decide +kernel
theorem d_M_closing_41 : decode b_M_closing 41 = .ok (.goto 4, 3) := by decide +kernel
theorem d_M_closing_44 : decode b_M_closing 44 = .ok (.iconst 0, 1) := by decide +kernel
theorem d_M_closing_45 : decode b_M_closing 45 = .ok (.iadd, 1) := by decide +kernel
theorem d_M_closing_46 : decode b_M_closing 46 = .ok (.istore_n 2, 1) := by decide +kernel
theorem d_M_closing_47 : decode b_M_closing 47 = .ok (.iload_n 2, 1) := by decide +kernel
theorem d_M_closing_48 : decode b_M_closing 48 = .ok (.ifCond .ne 5, 3) := by decide +kernel
theorem d_M_closing_51 : decode b_M_closing 51 = .ok (.iload_n 3, 1) := by decide +kernel
theorem d_M_closing_52 : decode b_M_closing 52 = .ok (.ireturn, 1) := by decide +kernel
theorem d_M_closing_53 : decode b_M_closing 53 = .ok (.iload_n 3, 1) := by decide +kernel
theorem d_M_closing_54 : decode b_M_closing 54 = .ok (.iload 4, 2) := by decide +kernel
theorem d_M_closing_56 : decode b_M_closing 56 = .ok (.bipush 92, 2) := by decide +kernel
theorem d_M_closing_58 : decode b_M_closing 58 = .ok (.if_icmp .ne 7, 3) := by decide +kernel
theorem d_M_closing_61 : decode b_M_closing 61 = .ok (.iconst 2, 1) := by decide +kernel
theorem d_M_closing_62 : decode b_M_closing 62 = .ok (.goto 4, 3) := by decide +kernel
theorem d_M_closing_65 : decode b_M_closing 65 = .ok (.iconst 1, 1) := by decide +kernel
theorem d_M_closing_66 : decode b_M_closing 66 = .ok (.iadd, 1) := by decide +kernel
theorem d_M_closing_67 : decode b_M_closing 67 = .ok (.istore_n 3, 1) := by decide +kernel
theorem d_M_closing_68 : decode b_M_closing 68 = .ok (.goto (-62), 3) := by decide +kernel
theorem d_M_closing_71 : decode b_M_closing 71 = .ok (.aload_n 0, 1) := by decide +kernel
theorem d_M_closing_72 : decode b_M_closing 72 = .ok (.getfield 25, 3) := by decide +kernel
theorem d_M_closing_75 : decode b_M_closing 75 = .ok (.ireturn, 1) := by decide +kernel
theorem d_M_quote_0 : decode b_M_quote 0 = .ok (.iload_n 1, 1) := by decide +kernel
theorem d_M_quote_1 : decode b_M_quote 1 = .ok (.iconst 1, 1) := by decide +kernel
theorem d_M_quote_2 : decode b_M_quote 2 = .ok (.iadd, 1) := by decide +kernel
theorem d_M_quote_3 : decode b_M_quote 3 = .ok (.istore_n 2, 1) := by decide +kernel
theorem d_M_quote_4 : decode b_M_quote 4 = .ok (.iload_n 2, 1) := by decide +kernel
theorem d_M_quote_5 : decode b_M_quote 5 = .ok (.aload_n 0, 1) := by decide +kernel
theorem d_M_quote_6 : decode b_M_quote 6 = .ok (.getfield 25, 3) := by decide +kernel
theorem d_M_quote_9 : decode b_M_quote 9 = .ok (.if_icmp .ge 34, 3) := by decide +kernel
theorem d_M_quote_12 : decode b_M_quote 12 = .ok (.aload_n 0, 1) := by decide +kernel
theorem d_M_quote_13 : decode b_M_quote 13 = .ok (.iload_n 2, 1) := by decide +kernel
theorem d_M_quote_14 : decode b_M_quote 14 = .ok (.invokevirtual 29, 3) := by decide +kernel
theorem d_M_quote_17 : decode b_M_quote 17 = .ok (.bipush 34, 2) := by decide +kernel
theorem d_M_quote_19 : decode b_M_quote 19 = .ok (.if_icmp .eq 24, 3) := by decide +kernel
theorem d_M_quote_22 : decode b_M_quote 22 = .ok (.iload_n 2, 1) := by decide +kernel
theorem d_M_quote_23 : decode b_M_quote 23 = .ok (.aload_n 0, 1) := by decide +kernel
theorem d_M_quote_24 : decode b_M_quote 24 = .ok (.iload_n 2, 1) := by decide +kernel
theorem d_M_quote_25 : decode b_M_quote 25 = .ok (.invokevirtual 29, 3) := by decide +kernel
theorem d_M_quote_28 : decode b_M_quote 28 = .ok (.bipush 92, 2) := by decide +kernel
theorem d_M_quote_30 : decode b_M_quote 30 = .ok (.if_icmp .ne 7, 3) := by decide +kernel
theorem d_M_quote_33 : decode b_M_quote 33 = .ok (.iconst 2, 1) := by decide +kernel
theorem d_M_quote_34 : decode b_M_quote 34 = .ok (.goto 4, 3) := by decide +kernel
theorem d_M_quote_37 : decode b_M_quote 37 = .ok (.iconst 1, 1) := by decide +kernel
theorem d_M_quote_38 : decode b_M_quote 38 = .ok (.iadd, 1) := by decide +kernel
theorem d_M_quote_39 : decode b_M_quote 39 = .ok (.istore_n 2, 1) := by decide +kernel
theorem d_M_quote_40 : decode b_M_quote 40 = .ok (.goto (-36), 3) := by decide +kernel
theorem d_M_quote_43 : decode b_M_quote 43 = .ok (.iload_n 2, 1) := by decide +kernel
theorem d_M_quote_44 : decode b_M_quote 44 = .ok (.aload_n 0, 1) := by decide +kernel
theorem d_M_quote_45 : decode b_M_quote 45 = .ok (.getfield 25, 3) := by decide +kernel
theorem d_M_quote_48 : decode b_M_quote 48 = .ok (.if_icmp .ge 7, 3) := by decide +kernel
theorem d_M_quote_51 : decode b_M_quote 51 = .ok (.iload_n 2, 1) := by decide +kernel
theorem d_M_quote_52 : decode b_M_quote 52 = .ok (.goto 7, 3) := by decide +kernel
theorem d_M_quote_55 : decode b_M_quote 55 = .ok (.aload_n 0, 1) := by decide +kernel
theorem d_M_quote_56 : decode b_M_quote 56 = .ok (.getfield 25, 3) := by decide +kernel
theorem d_M_quote_59 : decode b_M_quote 59 = .ok (.ireturn, 1) := by decide +kernel
theorem d_M_ending_0 : decode b_M_ending 0 = .ok (.aload_n 0, 1) := by decide +kernel
theorem d_M_ending_1 : decode b_M_ending 1 = .ok (.iload_n 1, 1) := by decide +kernel
theorem d_M_ending_2 : decode b_M_ending 2 = .ok (.invokevirtual 29, 3) := by decide +kernel
theorem d_M_ending_5 : decode b_M_ending 5 = .ok (.istore_n 2, 1) := by decide +kernel
theorem d_M_ending_6 : decode b_M_ending 6 = .ok (.iload_n 2, 1) := by decide +kernel
theorem d_M_ending_7 : decode b_M_ending 7 = .ok (.bipush 123, 2) := by decide +kernel
theorem d_M_ending_9 : decode b_M_ending 9 = .ok (.if_icmp .eq 15, 3) := by decide +kernel
theorem d_M_ending_12 : decode b_M_ending 12 = .ok (.iload_n 2, 1) := by decide +kernel
theorem d_M_ending_13 : decode b_M_ending 13 = .ok (.bipush 34, 2) := by decide +kernel
theorem d_M_ending_15 : decode b_M_ending 15 = .ok (.if_icmp .eq 9, 3) := by decide +kernel
theorem d_M_ending_18 : decode b_M_ending 18 = .ok (.aload_n 0, 1) := by decide +kernel
theorem d_M_ending_19 : decode b_M_ending 19 = .ok (.iload_n 1, 1) := by decide +kernel
theorem d_M_ending_20 : decode b_M_ending 20 = .ok (.invokevirtual 40, 3) := by decide +kernel
theorem d_M_ending_23 : decode b_M_ending 23 = .ok (.ireturn, 1) := by decide +kernel
theorem d_M_ending_24 : decode b_M_ending 24 = .ok (.iload_n 2, 1) := by decide +kernel
theorem d_M_ending_25 : decode b_M_ending 25 = .ok (.bipush 123, 2) := by decide +kernel
theorem d_M_ending_27 : decode b_M_ending 27 = .ok (.if_icmp .ne 11, 3) := by decide +kernel
theorem d_M_ending_30 : decode b_M_ending 30 = .ok (.aload_n 0, 1) := by decide +kernel
theorem d_M_ending_31 : decode b_M_ending 31 = .ok (.iload_n 1, 1) := by decide +kernel
theorem d_M_ending_32 : decode b_M_ending 32 = .ok (.invokevirtual 43, 3) := by decide +kernel
theorem d_M_ending_35 : decode b_M_ending 35 = .ok (.goto 8, 3) := by decide +kernel
theorem d_M_ending_38 : decode b_M_ending 38 = .ok (.aload_n 0, 1) := by decide +kernel
theorem d_M_ending_39 : decode b_M_ending 39 = .ok (.iload_n 1, 1) := by decide +kernel
theorem d_M_ending_40 : decode b_M_ending 40 = .ok (.invokevirtual 46, 3) := by decide +kernel
theorem d_M_ending_43 : decode b_M_ending 43 = .ok (.istore_n 3, 1) := by decide +kernel
theorem d_M_ending_44 : decode b_M_ending 44 = .ok (.iload_n 3, 1) := by decide +kernel
theorem d_M_ending_45 : decode b_M_ending 45 = .ok (.aload_n 0, 1) := by decide +kernel
theorem d_M_ending_46 : decode b_M_ending 46 = .ok (.getfield 25, 3) := by decide +kernel
theorem d_M_ending_49 : decode b_M_ending 49 = .ok (.if_icmp .ge 30, 3) := by decide +kernel
theorem d_M_ending_52 : decode b_M_ending 52 = .ok (.iload_n 3, 1) := by decide +kernel
theorem d_M_ending_53 : decode b_M_ending 53 = .ok (.iconst 1, 1) := by decide +kernel
theorem d_M_ending_54 : decode b_M_ending 54 = .ok (.iadd, 1) := by decide +kernel
theorem d_M_ending_55 : decode b_M_ending 55 = .ok (.aload_n 0, 1) := by decide +kernel
theorem d_M_ending_56 : decode b_M_ending 56 = .ok (.getfield 25, 3) := by decide +kernel
theorem d_M_ending_59 : decode b_M_ending 59 = .ok (.if_icmp .eq 16, 3) := by decide +kernel
theorem d_M_ending_62 : decode b_M_ending 62 = .ok (.aload_n 0, 1) := by decide +kernel
theorem d_M_ending_63 : decode b_M_ending 63 = .ok (.iload_n 3, 1) := by decide +kernel
theorem d_M_ending_64 : decode b_M_ending 64 = .ok (.iconst 1, 1) := by decide +kernel
theorem d_M_ending_65 : decode b_M_ending 65 = .ok (.iadd, 1) := by decide +kernel
theorem d_M_ending_66 : decode b_M_ending 66 = .ok (.invokevirtual 29, 3) := by decide +kernel
theorem d_M_ending_69 : decode b_M_ending 69 = .ok (.invokestatic 33, 3) := by decide +kernel
theorem d_M_ending_72 : decode b_M_ending 72 = .ok (.ifCond .eq 7, 3) := by decide +kernel
theorem d_M_ending_75 : decode b_M_ending 75 = .ok (.iconst 1, 1) := by decide +kernel
theorem d_M_ending_76 : decode b_M_ending 76 = .ok (.goto 4, 3) := by decide +kernel
theorem d_M_ending_79 : decode b_M_ending 79 = .ok (.iconst 0, 1) := by decide +kernel
theorem d_M_ending_80 : decode b_M_ending 80 = .ok (.istore 4, 2) := by decide +kernel
theorem d_M_ending_82 : decode b_M_ending 82 = .ok (.iload 4, 2) := by decide +kernel
theorem d_M_ending_84 : decode b_M_ending 84 = .ok (.ifCond .eq 9, 3) := by decide +kernel
theorem d_M_ending_87 : decode b_M_ending 87 = .ok (.iload_n 3, 1) := by decide +kernel
theorem d_M_ending_88 : decode b_M_ending 88 = .ok (.iconst 1, 1) := by decide +kernel
theorem d_M_ending_89 : decode b_M_ending 89 = .ok (.iadd, 1) := by decide +kernel
theorem d_M_ending_90 : decode b_M_ending 90 = .ok (.goto 5, 3) := by decide +kernel
theorem d_M_ending_93 : decode b_M_ending 93 = .ok (.bipush (-2), 2) := by decide +kernel
theorem d_M_ending_95 : decode b_M_ending 95 = .ok (.ireturn, 1) := by decide +kernel
theorem d_M_add_0 : decode b_M_add 0 = .ok (.aload_n 0, 1) := by decide +kernel
theorem d_M_add_1 : decode b_M_add 1 = .ok (.getfield 19, 3) := by decide +kernel
theorem d_M_add_4 : decode b_M_add 4 = .ok (.aload_n 0, 1) := by decide +kernel
theorem d_M_add_5 : decode b_M_add 5 = .ok (.getfield 49, 3) := by decide +kernel
theorem d_M_add_8 : decode b_M_add 8 = .ok (.iload_n 1, 1) := by decide +kernel
theorem d_M_add_9 : decode b_M_add 9 = .ok (.iastore, 1) := by decide +kernel
theorem d_M_add_10 : decode b_M_add 10 = .ok (.aload_n 0, 1) := by decide +kernel
theorem d_M_add_11 : decode b_M_add 11 = .ok (.dup, 1) := by decide +kernel
theorem d_M_add_12 : decode b_M_add 12 = .ok (.getfield 49, 3) := by decide +kernel
theorem d_M_add_15 : decode b_M_add 15 = .ok (.iconst 1, 1) := by decide +kernel
theorem d_M_add_16 : decode b_M_add 16 = .ok (.iadd, 1) := by decide +kernel
theorem d_M_add_17 : decode b_M_add 17 = .ok (.putfield 49, 3) := by decide +kernel
theorem d_M_add_20 : decode b_M_add 20 = .ok (.return_, 1) := by decide +kernel
theorem d_M_digit_0 : decode b_M_digit 0 = .ok (.iload_n 0, 1) := by decide +kernel
theorem d_M_digit_1 : decode b_M_digit 1 = .ok (.bipush 48, 2) := by decide +kernel
theorem d_M_digit_3 : decode b_M_digit 3 = .ok (.if_icmp .lt 16, 3) := by decide +kernel
theorem d_M_digit_6 : decode b_M_digit 6 = .ok (.iload_n 0, 1) := by decide +kernel
theorem d_M_digit_7 : decode b_M_digit 7 = .ok (.bipush 57, 2) := by decide +kernel
theorem d_M_digit_9 : decode b_M_digit 9 = .ok (.if_icmp .gt 10, 3) := by decide +kernel
theorem d_M_digit_12 : decode b_M_digit 12 = .ok (.iload_n 0, 1) := by decide +kernel
theorem d_M_digit_13 : decode b_M_digit 13 = .ok (.bipush 48, 2) := by decide +kernel
theorem d_M_digit_15 : decode b_M_digit 15 = .ok (.isub, 1) := by decide +kernel
theorem d_M_digit_16 : decode b_M_digit 16 = .ok (.goto 49, 3) := by decide +kernel
theorem d_M_digit_19 : decode b_M_digit 19 = .ok (.iload_n 0, 1) := by decide +kernel
theorem d_M_digit_20 : decode b_M_digit 20 = .ok (.bipush 97, 2) := by decide +kernel
theorem d_M_digit_22 : decode b_M_digit 22 = .ok (.if_icmp .lt 19, 3) := by decide +kernel
theorem d_M_digit_25 : decode b_M_digit 25 = .ok (.iload_n 0, 1) := by decide +kernel
theorem d_M_digit_26 : decode b_M_digit 26 = .ok (.bipush 102, 2) := by decide +kernel
theorem d_M_digit_28 : decode b_M_digit 28 = .ok (.if_icmp .gt 13, 3) := by decide +kernel
theorem d_M_digit_31 : decode b_M_digit 31 = .ok (.iload_n 0, 1) := by decide +kernel
theorem d_M_digit_32 : decode b_M_digit 32 = .ok (.bipush 97, 2) := by decide +kernel
theorem d_M_digit_34 : decode b_M_digit 34 = .ok (.isub, 1) := by decide +kernel
theorem d_M_digit_35 : decode b_M_digit 35 = .ok (.bipush 10, 2) := by decide +kernel
theorem d_M_digit_37 : decode b_M_digit 37 = .ok (.iadd, 1) := by decide +kernel
theorem d_M_digit_38 : decode b_M_digit 38 = .ok (.goto 27, 3) := by decide +kernel
theorem d_M_digit_41 : decode b_M_digit 41 = .ok (.iload_n 0, 1) := by decide +kernel
theorem d_M_digit_42 : decode b_M_digit 42 = .ok (.bipush 65, 2) := by decide +kernel
theorem d_M_digit_44 : decode b_M_digit 44 = .ok (.if_icmp .lt 19, 3) := by decide +kernel
theorem d_M_digit_47 : decode b_M_digit 47 = .ok (.iload_n 0, 1) := by decide +kernel
theorem d_M_digit_48 : decode b_M_digit 48 = .ok (.bipush 70, 2) := by decide +kernel
theorem d_M_digit_50 : decode b_M_digit 50 = .ok (.if_icmp .gt 13, 3) := by decide +kernel
theorem d_M_digit_53 : decode b_M_digit 53 = .ok (.iload_n 0, 1) := by decide +kernel
theorem d_M_digit_54 : decode b_M_digit 54 = .ok (.bipush 65, 2) := by decide +kernel
theorem d_M_digit_56 : decode b_M_digit 56 = .ok (.isub, 1) := by decide +kernel
theorem d_M_digit_57 : decode b_M_digit 57 = .ok (.bipush 10, 2) := by decide +kernel
theorem d_M_digit_59 : decode b_M_digit 59 = .ok (.iadd, 1) := by decide +kernel
theorem d_M_digit_60 : decode b_M_digit 60 = .ok (.goto 5, 3) := by decide +kernel
theorem d_M_digit_63 : decode b_M_digit 63 = .ok (.bipush 99, 2) := by decide +kernel
theorem d_M_digit_65 : decode b_M_digit 65 = .ok (.istore_n 1, 1) := by decide +kernel
theorem d_M_digit_66 : decode b_M_digit 66 = .ok (.iload_n 1, 1) := by decide +kernel
theorem d_M_digit_67 : decode b_M_digit 67 = .ok (.ireturn, 1) := by decide +kernel
theorem d_M_letter_0 : decode b_M_letter 0 = .ok (.iload_n 0, 1) := by decide +kernel
theorem d_M_letter_1 : decode b_M_letter 1 = .ok (.tableswitch 124 97 118 #[103, 106, 124, 124, 124, 118, 124, 124, 124, 124, 124, 124, 124, 112, 124, 124, 124, 121, 124, 109, 124, 115], 103) := by decide +kernel
theorem d_M_letter_104 : decode b_M_letter 104 = .ok (.bipush 7, 2) := by decide +kernel
theorem d_M_letter_106 : decode b_M_letter 106 = .ok (.ireturn, 1) := by decide +kernel
theorem d_M_letter_107 : decode b_M_letter 107 = .ok (.bipush 8, 2) := by decide +kernel
theorem d_M_letter_109 : decode b_M_letter 109 = .ok (.ireturn, 1) := by decide +kernel
theorem d_M_letter_110 : decode b_M_letter 110 = .ok (.bipush 9, 2) := by decide +kernel
theorem d_M_letter_112 : decode b_M_letter 112 = .ok (.ireturn, 1) := by decide +kernel
theorem d_M_letter_113 : decode b_M_letter 113 = .ok (.bipush 10, 2) := by decide +kernel
theorem d_M_letter_115 : decode b_M_letter 115 = .ok (.ireturn, 1) := by decide +kernel
theorem d_M_letter_116 : decode b_M_letter 116 = .ok (.bipush 11, 2) := by decide +kernel
theorem d_M_letter_118 : decode b_M_letter 118 = .ok (.ireturn, 1) := by decide +kernel
theorem d_M_letter_119 : decode b_M_letter 119 = .ok (.bipush 12, 2) := by decide +kernel
theorem d_M_letter_121 : decode b_M_letter 121 = .ok (.ireturn, 1) := by decide +kernel
theorem d_M_letter_122 : decode b_M_letter 122 = .ok (.bipush 13, 2) := by decide +kernel
theorem d_M_letter_124 : decode b_M_letter 124 = .ok (.ireturn, 1) := by decide +kernel
theorem d_M_letter_125 : decode b_M_letter 125 = .ok (.iload_n 0, 1) := by decide +kernel
theorem d_M_letter_126 : decode b_M_letter 126 = .ok (.ireturn, 1) := by decide +kernel
theorem d_M_meaning_0 : decode b_M_meaning 0 = .ok (.iload_n 1, 1) := by decide +kernel
theorem d_M_meaning_1 : decode b_M_meaning 1 = .ok (.iconst 1, 1) := by decide +kernel
theorem d_M_meaning_2 : decode b_M_meaning 2 = .ok (.iadd, 1) := by decide +kernel
theorem d_M_meaning_3 : decode b_M_meaning 3 = .ok (.iload_n 2, 1) := by decide +kernel
theorem d_M_meaning_4 : decode b_M_meaning 4 = .ok (.if_icmp .lt 13, 3) := by decide +kernel
theorem d_M_meaning_7 : decode b_M_meaning 7 = .ok (.aload_n 0, 1) := by decide +kernel
theorem d_M_meaning_8 : decode b_M_meaning 8 = .ok (.bipush 92, 2) := by decide +kernel
theorem d_M_meaning_10 : decode b_M_meaning 10 = .ok (.invokevirtual 52, 3) := by decide +kernel
theorem d_M_meaning_13 : decode b_M_meaning 13 = .ok (.iload_n 1, 1) := by decide +kernel
theorem d_M_meaning_14 : decode b_M_meaning 14 = .ok (.iconst 1, 1) := by decide +kernel
theorem d_M_meaning_15 : decode b_M_meaning 15 = .ok (.iadd, 1) := by decide +kernel
theorem d_M_meaning_16 : decode b_M_meaning 16 = .ok (.ireturn, 1) := by decide +kernel
theorem d_M_meaning_17 : decode b_M_meaning 17 = .ok (.aload_n 0, 1) := by decide +kernel
theorem d_M_meaning_18 : decode b_M_meaning 18 = .ok (.iload_n 1, 1) := by decide +kernel
theorem d_M_meaning_19 : decode b_M_meaning 19 = .ok (.iconst 1, 1) := by decide +kernel
theorem d_M_meaning_20 : decode b_M_meaning 20 = .ok (.iadd, 1) := by decide +kernel
theorem d_M_meaning_21 : decode b_M_meaning 21 = .ok (.invokevirtual 29, 3) := by decide +kernel
theorem d_M_meaning_24 : decode b_M_meaning 24 = .ok (.istore_n 3, 1) := by decide +kernel
theorem d_M_meaning_25 : decode b_M_meaning 25 = .ok (.iload_n 3, 1) := by decide +kernel
theorem d_M_meaning_26 : decode b_M_meaning 26 = .ok (.bipush 10, 2) := by decide +kernel
theorem d_M_meaning_28 : decode b_M_meaning 28 = .ok (.if_icmp .ne 15, 3) := by decide +kernel
theorem d_M_meaning_31 : decode b_M_meaning 31 = .ok (.aload_n 0, 1) := by decide +kernel
theorem d_M_meaning_32 : decode b_M_meaning 32 = .ok (.bipush 32, 2) := by decide +kernel
theorem d_M_meaning_34 : decode b_M_meaning 34 = .ok (.invokevirtual 52, 3) := by decide +kernel
theorem d_M_meaning_37 : decode b_M_meaning 37 = .ok (.aload_n 0, 1) := by decide +kernel
theorem d_M_meaning_38 : decode b_M_meaning 38 = .ok (.iload_n 1, 1) := by decide +kernel
theorem d_M_meaning_39 : decode b_M_meaning 39 = .ok (.invokevirtual 37, 3) := by decide +kernel
theorem d_M_meaning_42 : decode b_M_meaning 42 = .ok (.ireturn, 1) := by decide +kernel
theorem d_M_meaning_43 : decode b_M_meaning 43 = .ok (.iload_n 3, 1) := by decide +kernel
theorem d_M_meaning_44 : decode b_M_meaning 44 = .ok (.bipush 120, 2) := by decide +kernel
theorem d_M_meaning_46 : decode b_M_meaning 46 = .ok (.if_icmp .ne 7, 3) := by decide +kernel
theorem d_M_meaning_49 : decode b_M_meaning 49 = .ok (.iconst 1, 1) := by decide +kernel
theorem d_M_meaning_50 : decode b_M_meaning 50 = .ok (.goto 4, 3) := by decide +kernel
theorem d_M_meaning_53 : decode b_M_meaning 53 = .ok (.iconst 0, 1) := by decide +kernel
theorem d_M_meaning_54 : decode b_M_meaning 54 = .ok (.istore 4, 2) := by decide +kernel
theorem d_M_meaning_56 : decode b_M_meaning 56 = .ok (.iload 4, 2) := by decide +kernel
theorem d_M_meaning_58 : decode b_M_meaning 58 = .ok (.ifCond .eq 8, 3) := by decide +kernel
theorem d_M_meaning_61 : decode b_M_meaning 61 = .ok (.bipush 16, 2) := by decide +kernel
theorem d_M_meaning_63 : decode b_M_meaning 63 = .ok (.goto 5, 3) := by decide +kernel
theorem d_M_meaning_66 : decode b_M_meaning 66 = .ok (.bipush 8, 2) := by decide +kernel
theorem d_M_meaning_68 : decode b_M_meaning 68 = .ok (.istore 5, 2) := by decide +kernel
theorem d_M_meaning_70 : decode b_M_meaning 70 = .ok (.iload 4, 2) := by decide +kernel
theorem d_M_meaning_72 : decode b_M_meaning 72 = .ok (.ifCond .eq 9, 3) := by decide +kernel
theorem d_M_meaning_75 : decode b_M_meaning 75 = .ok (.iload_n 1, 1) := by decide +kernel
theorem d_M_meaning_76 : decode b_M_meaning 76 = .ok (.iconst 2, 1) := by decide +kernel
theorem d_M_meaning_77 : decode b_M_meaning 77 = .ok (.iadd, 1) := by decide +kernel
theorem d_M_meaning_78 : decode b_M_meaning 78 = .ok (.goto 6, 3) := by decide +kernel
theorem d_M_meaning_81 : decode b_M_meaning 81 = .ok (.iload_n 1, 1) := by decide +kernel
theorem d_M_meaning_82 : decode b_M_meaning 82 = .ok (.iconst 1, 1) := by decide +kernel
theorem d_M_meaning_83 : decode b_M_meaning 83 = .ok (.iadd, 1) := by decide +kernel
theorem d_M_meaning_84 : decode b_M_meaning 84 = .ok (.istore 6, 2) := by decide +kernel
theorem d_M_meaning_86 : decode b_M_meaning 86 = .ok (.iload 4, 2) := by decide +kernel
theorem d_M_meaning_88 : decode b_M_meaning 88 = .ok (.ifCond .eq 7, 3) := by decide +kernel
theorem d_M_meaning_91 : decode b_M_meaning 91 = .ok (.iconst 2, 1) := by decide +kernel
theorem d_M_meaning_92 : decode b_M_meaning 92 = .ok (.goto 4, 3) := by decide +kernel
theorem d_M_meaning_95 : decode b_M_meaning 95 = .ok (.iconst 3, 1) := by decide +kernel
theorem d_M_meaning_96 : decode b_M_meaning 96 = .ok (.istore 7, 2) := by decide +kernel
theorem d_M_meaning_98 : decode b_M_meaning 98 = .ok (.iconst 0, 1) := by decide +kernel
theorem d_M_meaning_99 : decode b_M_meaning 99 = .ok (.istore 8, 2) := by decide +kernel
theorem d_M_meaning_101 : decode b_M_meaning 101 = .ok (.iconst 0, 1) := by decide +kernel
theorem d_M_meaning_102 : decode b_M_meaning 102 = .ok (.istore 9, 2) := by decide +kernel
theorem d_M_meaning_104 : decode b_M_meaning 104 = .ok (.iload 9, 2) := by decide +kernel
theorem d_M_meaning_106 : decode b_M_meaning 106 = .ok (.iload 7, 2) := by decide +kernel
theorem d_M_meaning_108 : decode b_M_meaning 108 = .ok (.if_icmp .ge 49, 3) := by decide +kernel
theorem d_M_meaning_111 : decode b_M_meaning 111 = .ok (.iload 6, 2) := by decide +kernel
theorem d_M_meaning_113 : decode b_M_meaning 113 = .ok (.iload_n 2, 1) := by decide +kernel
theorem d_M_meaning_114 : decode b_M_meaning 114 = .ok (.if_icmp .ge 43, 3) := by decide +kernel
theorem d_M_meaning_117 : decode b_M_meaning 117 = .ok (.aload_n 0, 1) := by decide +kernel
theorem d_M_meaning_118 : decode b_M_meaning 118 = .ok (.iload 6, 2) := by decide +kernel
theorem d_M_meaning_120 : decode b_M_meaning 120 = .ok (.invokevirtual 29, 3) := by decide +kernel
theorem d_M_meaning_123 : decode b_M_meaning 123 = .ok (.invokestatic 56, 3) := by decide +kernel
theorem d_M_meaning_126 : decode b_M_meaning 126 = .ok (.iload 5, 2) := by decide +kernel
theorem d_M_meaning_128 : decode b_M_meaning 128 = .ok (.if_icmp .ge 29, 3) := by decide +kernel
theorem d_M_meaning_131 : decode b_M_meaning 131 = .ok (.iload 5, 2) := by decide +kernel
theorem d_M_meaning_133 : decode b_M_meaning 133 = .ok (.iload 8, 2) := by decide +kernel
theorem d_M_meaning_135 : decode b_M_meaning 135 = .ok (.imul, 1) := by decide +kernel
theorem d_M_meaning_136 : decode b_M_meaning 136 = .ok (.aload_n 0, 1) := by decide +kernel
theorem d_M_meaning_137 : decode b_M_meaning 137 = .ok (.iload 6, 2) := by decide +kernel
theorem d_M_meaning_139 : decode b_M_meaning 139 = .ok (.invokevirtual 29, 3) := by decide +kernel
theorem d_M_meaning_142 : decode b_M_meaning 142 = .ok (.invokestatic 56, 3) := by decide +kernel
theorem d_M_meaning_145 : decode b_M_meaning 145 = .ok (.iadd, 1) := by decide +kernel
theorem d_M_meaning_146 : decode b_M_meaning 146 = .ok (.istore 8, 2) := by decide +kernel
theorem d_M_meaning_148 : decode b_M_meaning 148 = .ok (.iinc 6 1, 3) := by decide +kernel
theorem d_M_meaning_151 : decode b_M_meaning 151 = .ok (.iinc 9 1, 3) := by decide +kernel
theorem d_M_meaning_154 : decode b_M_meaning 154 = .ok (.goto (-50), 3) := by decide +kernel
theorem d_M_meaning_157 : decode b_M_meaning 157 = .ok (.iload 9, 2) := by decide +kernel
theorem d_M_meaning_159 : decode b_M_meaning 159 = .ok (.ifCond .le 16, 3) := by decide +kernel
theorem d_M_meaning_162 : decode b_M_meaning 162 = .ok (.aload_n 0, 1) := by decide +kernel
theorem d_M_meaning_163 : decode b_M_meaning 163 = .ok (.iload 8, 2) := by decide +kernel
theorem d_M_meaning_165 : decode b_M_meaning 165 = .ok (.sipush 255, 3) := by decide +kernel
theorem d_M_meaning_168 : decode b_M_meaning 168 = .ok (.iand, 1) := by decide +kernel
theorem d_M_meaning_169 : decode b_M_meaning 169 = .ok (.invokevirtual 52, 3) := by decide +kernel
theorem d_M_meaning_172 : decode b_M_meaning 172 = .ok (.iload 6, 2) := by decide +kernel
theorem d_M_meaning_174 : decode b_M_meaning 174 = .ok (.ireturn, 1) := by decide +kernel
theorem d_M_meaning_175 : decode b_M_meaning 175 = .ok (.aload_n 0, 1) := by decide +kernel
theorem d_M_meaning_176 : decode b_M_meaning 176 = .ok (.iload_n 3, 1) := by decide +kernel
theorem d_M_meaning_177 : decode b_M_meaning 177 = .ok (.invokestatic 59, 3) := by decide +kernel
theorem d_M_meaning_180 : decode b_M_meaning 180 = .ok (.invokevirtual 52, 3) := by decide +kernel
theorem d_M_meaning_183 : decode b_M_meaning 183 = .ok (.iload_n 1, 1) := by decide +kernel
theorem d_M_meaning_184 : decode b_M_meaning 184 = .ok (.iconst 2, 1) := by decide +kernel
theorem d_M_meaning_185 : decode b_M_meaning 185 = .ok (.iadd, 1) := by decide +kernel
theorem d_M_meaning_186 : decode b_M_meaning 186 = .ok (.ireturn, 1) := by decide +kernel
theorem d_M_read_0 : decode b_M_read 0 = .ok (.aload_n 0, 1) := by decide +kernel
theorem d_M_read_1 : decode b_M_read 1 = .ok (.iload_n 1, 1) := by decide +kernel
theorem d_M_read_2 : decode b_M_read 2 = .ok (.invokevirtual 29, 3) := by decide +kernel
theorem d_M_read_5 : decode b_M_read 5 = .ok (.istore_n 3, 1) := by decide +kernel
theorem d_M_read_6 : decode b_M_read 6 = .ok (.iload_n 3, 1) := by decide +kernel
theorem d_M_read_7 : decode b_M_read 7 = .ok (.bipush 123, 2) := by decide +kernel
theorem d_M_read_9 : decode b_M_read 9 = .ok (.if_icmp .eq 9, 3) := by decide +kernel
theorem d_M_read_12 : decode b_M_read 12 = .ok (.iload_n 3, 1) := by decide +kernel
theorem d_M_read_13 : decode b_M_read 13 = .ok (.bipush 34, 2) := by decide +kernel
theorem d_M_read_15 : decode b_M_read 15 = .ok (.if_icmp .ne 9, 3) := by decide +kernel
theorem d_M_read_18 : decode b_M_read 18 = .ok (.iload_n 1, 1) := by decide +kernel
theorem d_M_read_19 : decode b_M_read 19 = .ok (.iconst 1, 1) := by decide +kernel
theorem d_M_read_20 : decode b_M_read 20 = .ok (.iadd, 1) := by decide +kernel
theorem d_M_read_21 : decode b_M_read 21 = .ok (.goto 4, 3) := by decide +kernel
theorem d_M_read_24 : decode b_M_read 24 = .ok (.iload_n 1, 1) := by decide +kernel
theorem d_M_read_25 : decode b_M_read 25 = .ok (.istore 4, 2) := by decide +kernel
theorem d_M_read_27 : decode b_M_read 27 = .ok (.iload_n 3, 1) := by decide +kernel
theorem d_M_read_28 : decode b_M_read 28 = .ok (.bipush 123, 2) := by decide +kernel
theorem d_M_read_30 : decode b_M_read 30 = .ok (.if_icmp .eq 9, 3) := by decide +kernel
theorem d_M_read_33 : decode b_M_read 33 = .ok (.iload_n 3, 1) := by decide +kernel
theorem d_M_read_34 : decode b_M_read 34 = .ok (.bipush 34, 2) := by decide +kernel
theorem d_M_read_36 : decode b_M_read 36 = .ok (.if_icmp .ne 9, 3) := by decide +kernel
theorem d_M_read_39 : decode b_M_read 39 = .ok (.iload_n 2, 1) := by decide +kernel
theorem d_M_read_40 : decode b_M_read 40 = .ok (.iconst 1, 1) := by decide +kernel
theorem d_M_read_41 : decode b_M_read 41 = .ok (.isub, 1) := by decide +kernel
theorem d_M_read_42 : decode b_M_read 42 = .ok (.goto 4, 3) := by decide +kernel
theorem d_M_read_45 : decode b_M_read 45 = .ok (.iload_n 2, 1) := by decide +kernel
theorem d_M_read_46 : decode b_M_read 46 = .ok (.istore 5, 2) := by decide +kernel
theorem d_M_read_48 : decode b_M_read 48 = .ok (.aload_n 0, 1) := by decide +kernel
theorem d_M_read_49 : decode b_M_read 49 = .ok (.iconst 0, 1) := by decide +kernel
theorem d_M_read_50 : decode b_M_read 50 = .ok (.putfield 49, 3) := by decide +kernel
theorem d_M_read_53 : decode b_M_read 53 = .ok (.iload 4, 2) := by decide +kernel
theorem d_M_read_55 : decode b_M_read 55 = .ok (.istore 6, 2) := by decide +kernel
theorem d_M_read_57 : decode b_M_read 57 = .ok (.iload 6, 2) := by decide +kernel
theorem d_M_read_59 : decode b_M_read 59 = .ok (.iload 5, 2) := by decide +kernel
theorem d_M_read_61 : decode b_M_read 61 = .ok (.if_icmp .ge 49, 3) := by decide +kernel
theorem d_M_read_64 : decode b_M_read 64 = .ok (.iload_n 3, 1) := by decide +kernel
theorem d_M_read_65 : decode b_M_read 65 = .ok (.bipush 123, 2) := by decide +kernel
theorem d_M_read_67 : decode b_M_read 67 = .ok (.if_icmp .eq 27, 3) := by decide +kernel
theorem d_M_read_70 : decode b_M_read 70 = .ok (.aload_n 0, 1) := by decide +kernel
theorem d_M_read_71 : decode b_M_read 71 = .ok (.iload 6, 2) := by decide +kernel
theorem d_M_read_73 : decode b_M_read 73 = .ok (.invokevirtual 29, 3) := by decide +kernel
theorem d_M_read_76 : decode b_M_read 76 = .ok (.bipush 92, 2) := by decide +kernel
theorem d_M_read_78 : decode b_M_read 78 = .ok (.if_icmp .ne 16, 3) := by decide +kernel
theorem d_M_read_81 : decode b_M_read 81 = .ok (.aload_n 0, 1) := by decide +kernel
theorem d_M_read_82 : decode b_M_read 82 = .ok (.iload 6, 2) := by decide +kernel
theorem d_M_read_84 : decode b_M_read 84 = .ok (.iload 5, 2) := by decide +kernel
theorem d_M_read_86 : decode b_M_read 86 = .ok (.invokevirtual 62, 3) := by decide +kernel
theorem d_M_read_89 : decode b_M_read 89 = .ok (.istore 6, 2) := by decide +kernel
theorem d_M_read_91 : decode b_M_read 91 = .ok (.goto (-34), 3) := by decide +kernel
theorem d_M_read_94 : decode b_M_read 94 = .ok (.aload_n 0, 1) := by decide +kernel
theorem d_M_read_95 : decode b_M_read 95 = .ok (.aload_n 0, 1) := by decide +kernel
theorem d_M_read_96 : decode b_M_read 96 = .ok (.iload 6, 2) := by decide +kernel
theorem d_M_read_98 : decode b_M_read 98 = .ok (.invokevirtual 29, 3) := by decide +kernel
theorem d_M_read_101 : decode b_M_read 101 = .ok (.invokevirtual 52, 3) := by decide +kernel
theorem d_M_read_104 : decode b_M_read 104 = .ok (.iinc 6 1, 3) := by decide +kernel
theorem d_M_read_107 : decode b_M_read 107 = .ok (.goto (-50), 3) := by decide +kernel
theorem d_M_read_110 : decode b_M_read 110 = .ok (.return_, 1) := by decide +kernel
theorem d_M_goOver_0 : decode b_M_goOver 0 = .ok (.iconst 0, 1) := by decide +kernel
theorem d_M_goOver_1 : decode b_M_goOver 1 = .ok (.istore_n 2, 1) := by decide +kernel
theorem d_M_goOver_2 : decode b_M_goOver 2 = .ok (.aload_n 0, 1) := by decide +kernel
theorem d_M_goOver_3 : decode b_M_goOver 3 = .ok (.iconst 0, 1) := by decide +kernel
theorem d_M_goOver_4 : decode b_M_goOver 4 = .ok (.invokevirtual 66, 3) := by decide +kernel
theorem d_M_goOver_7 : decode b_M_goOver 7 = .ok (.istore_n 3, 1) := by decide +kernel
theorem d_M_goOver_8 : decode b_M_goOver 8 = .ok (.iload_n 3, 1) := by decide +kernel
theorem d_M_goOver_9 : decode b_M_goOver 9 = .ok (.aload_n 0, 1) := by decide +kernel
theorem d_M_goOver_10 : decode b_M_goOver 10 = .ok (.getfield 25, 3) := by decide +kernel
theorem d_M_goOver_13 : decode b_M_goOver 13 = .ok (.if_icmp .ge 50, 3) := by decide +kernel
theorem d_M_goOver_16 : decode b_M_goOver 16 = .ok (.iload_n 2, 1) := by decide +kernel
theorem d_M_goOver_17 : decode b_M_goOver 17 = .ok (.iload_n 1, 1) := by decide +kernel
theorem d_M_goOver_18 : decode b_M_goOver 18 = .ok (.if_icmp .gt 45, 3) := by decide +kernel
theorem d_M_goOver_21 : decode b_M_goOver 21 = .ok (.aload_n 0, 1) := by decide +kernel
theorem d_M_goOver_22 : decode b_M_goOver 22 = .ok (.iload_n 3, 1) := by decide +kernel
theorem d_M_goOver_23 : decode b_M_goOver 23 = .ok (.invokevirtual 69, 3) := by decide +kernel
theorem d_M_goOver_26 : decode b_M_goOver 26 = .ok (.istore 4, 2) := by decide +kernel
theorem d_M_goOver_28 : decode b_M_goOver 28 = .ok (.iload 4, 2) := by decide +kernel
theorem d_M_goOver_30 : decode b_M_goOver 30 = .ok (.bipush (-2), 2) := by decide +kernel
theorem d_M_goOver_32 : decode b_M_goOver 32 = .ok (.if_icmp .ne 6, 3) := by decide +kernel
theorem d_M_goOver_35 : decode b_M_goOver 35 = .ok (.bipush (-2), 2) := by decide +kernel
theorem d_M_goOver_37 : decode b_M_goOver 37 = .ok (.ireturn, 1) := by decide +kernel
theorem d_M_goOver_38 : decode b_M_goOver 38 = .ok (.iload_n 2, 1) := by decide +kernel
theorem d_M_goOver_39 : decode b_M_goOver 39 = .ok (.iload_n 1, 1) := by decide +kernel
theorem d_M_goOver_40 : decode b_M_goOver 40 = .ok (.if_icmp .ne 10, 3) := by decide +kernel
theorem d_M_goOver_43 : decode b_M_goOver 43 = .ok (.aload_n 0, 1) := by decide +kernel
theorem d_M_goOver_44 : decode b_M_goOver 44 = .ok (.iload_n 3, 1) := by decide +kernel
theorem d_M_goOver_45 : decode b_M_goOver 45 = .ok (.iload 4, 2) := by decide +kernel
theorem d_M_goOver_47 : decode b_M_goOver 47 = .ok (.invokevirtual 72, 3) := by decide +kernel
theorem d_M_goOver_50 : decode b_M_goOver 50 = .ok (.iinc 2 1, 3) := by decide +kernel
theorem d_M_goOver_53 : decode b_M_goOver 53 = .ok (.aload_n 0, 1) := by decide +kernel
theorem d_M_goOver_54 : decode b_M_goOver 54 = .ok (.iload 4, 2) := by decide +kernel
theorem d_M_goOver_56 : decode b_M_goOver 56 = .ok (.invokevirtual 66, 3) := by decide +kernel
theorem d_M_goOver_59 : decode b_M_goOver 59 = .ok (.istore_n 3, 1) := by decide +kernel
theorem d_M_goOver_60 : decode b_M_goOver 60 = .ok (.goto (-52), 3) := by decide +kernel
theorem d_M_goOver_63 : decode b_M_goOver 63 = .ok (.iload_n 2, 1) := by decide +kernel
theorem d_M_goOver_64 : decode b_M_goOver 64 = .ok (.ireturn, 1) := by decide +kernel
theorem d_M_put_0 : decode b_M_put 0 = .ok (.aload_n 0, 1) := by decide +kernel
theorem d_M_put_1 : decode b_M_put 1 = .ok (.getfield 22, 3) := by decide +kernel
theorem d_M_put_4 : decode b_M_put 4 = .ok (.aload_n 0, 1) := by decide +kernel
theorem d_M_put_5 : decode b_M_put 5 = .ok (.getfield 76, 3) := by decide +kernel
theorem d_M_put_8 : decode b_M_put 8 = .ok (.iload_n 1, 1) := by decide +kernel
theorem d_M_put_9 : decode b_M_put 9 = .ok (.iastore, 1) := by decide +kernel
theorem d_M_put_10 : decode b_M_put 10 = .ok (.aload_n 0, 1) := by decide +kernel
theorem d_M_put_11 : decode b_M_put 11 = .ok (.dup, 1) := by decide +kernel
theorem d_M_put_12 : decode b_M_put 12 = .ok (.getfield 76, 3) := by decide +kernel
theorem d_M_put_15 : decode b_M_put 15 = .ok (.iconst 1, 1) := by decide +kernel
theorem d_M_put_16 : decode b_M_put 16 = .ok (.iadd, 1) := by decide +kernel
theorem d_M_put_17 : decode b_M_put 17 = .ok (.putfield 76, 3) := by decide +kernel
theorem d_M_put_20 : decode b_M_put 20 = .ok (.return_, 1) := by decide +kernel
theorem d_M_isSpecial_0 : decode b_M_isSpecial 0 = .ok (.iload_n 0, 1) := by decide +kernel
theorem d_M_isSpecial_1 : decode b_M_isSpecial 1 = .ok (.invokestatic 33, 3) := by decide +kernel
theorem d_M_isSpecial_4 : decode b_M_isSpecial 4 = .ok (.ifCond .ne 51, 3) := by decide +kernel
theorem d_M_isSpecial_7 : decode b_M_isSpecial 7 = .ok (.iload_n 0, 1) := by decide +kernel
theorem d_M_isSpecial_8 : decode b_M_isSpecial 8 = .ok (.bipush 34, 2) := by decide +kernel
theorem d_M_isSpecial_10 : decode b_M_isSpecial 10 = .ok (.if_icmp .eq 45, 3) := by decide +kernel
theorem d_M_isSpecial_13 : decode b_M_isSpecial 13 = .ok (.iload_n 0, 1) := by decide +kernel
theorem d_M_isSpecial_14 : decode b_M_isSpecial 14 = .ok (.bipush 36, 2) := by decide +kernel
theorem d_M_isSpecial_16 : decode b_M_isSpecial 16 = .ok (.if_icmp .eq 39, 3) := by decide +kernel
theorem d_M_isSpecial_19 : decode b_M_isSpecial 19 = .ok (.iload_n 0, 1) := by decide +kernel
theorem d_M_isSpecial_20 : decode b_M_isSpecial 20 = .ok (.bipush 59, 2) := by decide +kernel
theorem d_M_isSpecial_22 : decode b_M_isSpecial 22 = .ok (.if_icmp .eq 33, 3) := by decide +kernel
theorem d_M_isSpecial_25 : decode b_M_isSpecial 25 = .ok (.iload_n 0, 1) := by decide +kernel
theorem d_M_isSpecial_26 : decode b_M_isSpecial 26 = .ok (.bipush 91, 2) := by decide +kernel
theorem d_M_isSpecial_28 : decode b_M_isSpecial 28 = .ok (.if_icmp .eq 27, 3) := by decide +kernel
theorem d_M_isSpecial_31 : decode b_M_isSpecial 31 = .ok (.iload_n 0, 1) := by decide +kernel
theorem d_M_isSpecial_32 : decode b_M_isSpecial 32 = .ok (.bipush 92, 2) := by decide +kernel
theorem d_M_isSpecial_34 : decode b_M_isSpecial 34 = .ok (.if_icmp .eq 21, 3) := by decide +kernel
theorem d_M_isSpecial_37 : decode b_M_isSpecial 37 = .ok (.iload_n 0, 1) := by decide +kernel
