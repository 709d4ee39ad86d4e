theorem dX11_line_25 : decode cX11_line 25 = .ok (.aload_n 0, 1) := by decide +kernel
theorem dX11_line_26 : decode cX11_line 26 = .ok (.invokevirtual 303, 3) := by decide +kernel
theorem dX11_line_29 : decode cX11_line 29 = .ok (.ifCond .eq 25, 3) := by decide +kernel
theorem dX11_line_32 : decode cX11_line 32 = .ok (.aload_n 0, 1) := by decide +kernel
theorem dX11_line_33 : decode cX11_line 33 = .ok (.invokevirtual 306, 3) := by decide +kernel
theorem dX11_line_36 : decode cX11_line 36 = .ok (.ifCond .ne 5, 3) := by decide +kernel
theorem dX11_line_39 : decode cX11_line 39 = .ok (.iconst 0, 1) := by decide +kernel
theorem dX11_line_40 : decode cX11_line 40 = .ok (.ireturn, 1) := by decide +kernel
theorem dX11_line_41 : decode cX11_line 41 = .ok (.aload_n 0, 1) := by decide +kernel
theorem dX11_line_42 : decode cX11_line 42 = .ok (.invokevirtual 297, 3) := by decide +kernel
theorem dX11_line_45 : decode cX11_line 45 = .ok (.aload_n 0, 1) := by decide +kernel
theorem dX11_line_46 : decode cX11_line 46 = .ok (.getfield 214, 3) := by decide +kernel
theorem dX11_line_49 : decode cX11_line 49 = .ok (.ifCond .ne 5, 3) := by decide +kernel
theorem dX11_line_52 : decode cX11_line 52 = .ok (.iconst 1, 1) := by decide +kernel
theorem dX11_line_53 : decode cX11_line 53 = .ok (.ireturn, 1) := by decide +kernel
theorem dX11_line_54 : decode cX11_line 54 = .ok (.aload_n 0, 1) := by decide +kernel
theorem dX11_line_55 : decode cX11_line 55 = .ok (.invokevirtual 252, 3) := by decide +kernel
theorem dX11_line_58 : decode cX11_line 58 = .ok (.istore_n 1, 1) := by decide +kernel
theorem dX11_line_59 : decode cX11_line 59 = .ok (.iload_n 1, 1) := by decide +kernel
theorem dX11_line_60 : decode cX11_line 60 = .ok (.iconst (-1), 1) := by decide +kernel
theorem dX11_line_61 : decode cX11_line 61 = .ok (.if_icmp .eq 9, 3) := by decide +kernel
theorem dX11_line_64 : decode cX11_line 64 = .ok (.iload_n 1, 1) := by decide +kernel
theorem dX11_line_65 : decode cX11_line 65 = .ok (.bipush 30, 2) := by decide +kernel
theorem dX11_line_67 : decode cX11_line 67 = .ok (.if_icmp .ne 8, 3) := by decide +kernel
theorem dX11_line_70 : decode cX11_line 70 = .ok (.aload_n 0, 1) := by decide +kernel
theorem dX11_line_71 : decode cX11_line 71 = .ok (.invokevirtual 309, 3) := by decide +kernel
theorem dX11_line_74 : decode cX11_line 74 = .ok (.ireturn, 1) := by decide +kernel
theorem dX11_line_75 : decode cX11_line 75 = .ok (.aload_n 0, 1) := by decide +kernel
theorem dX11_line_76 : decode cX11_line 76 = .ok (.getfield 211, 3) := by decide +kernel
theorem dX11_line_79 : decode cX11_line 79 = .ok (.istore_n 2, 1) := by decide +kernel
theorem dX11_line_80 : decode cX11_line 80 = .ok (.iload_n 1, 1) := by decide +kernel
theorem dX11_line_81 : decode cX11_line 81 = .ok (.bipush 31, 2) := by decide +kernel
theorem dX11_line_83 : decode cX11_line 83 = .ok (.if_icmp .lt 15, 3) := by decide +kernel
theorem dX11_line_86 : decode cX11_line 86 = .ok (.aload_n 0, 1) := by decide +kernel
theorem dX11_line_87 : decode cX11_line 87 = .ok (.iload_n 1, 1) := by decide +kernel
theorem dX11_line_88 : decode cX11_line 88 = .ok (.iload_n 2, 1) := by decide +kernel
theorem dX11_line_89 : decode cX11_line 89 = .ok (.invokevirtual 312, 3) := by decide +kernel
theorem dX11_line_92 : decode cX11_line 92 = .ok (.ifCond .eq 15, 3) := by decide +kernel
theorem dX11_line_95 : decode cX11_line 95 = .ok (.goto 14, 3) := by decide +kernel
theorem dX11_line_98 : decode cX11_line 98 = .ok (.aload_n 0, 1) := by decide +kernel
theorem dX11_line_99 : decode cX11_line 99 = .ok (.iload_n 1, 1) := by decide +kernel
theorem dX11_line_100 : decode cX11_line 100 = .ok (.iload_n 2, 1) := by decide +kernel
theorem dX11_line_101 : decode cX11_line 101 = .ok (.invokevirtual 315, 3) := by decide +kernel
theorem dX11_line_104 : decode cX11_line 104 = .ok (.ifCond .ne 5, 3) := by decide +kernel
theorem dX11_line_107 : decode cX11_line 107 = .ok (.iconst 0, 1) := by decide +kernel
theorem dX11_line_108 : decode cX11_line 108 = .ok (.ireturn, 1) := by decide +kernel
theorem dX11_line_109 : decode cX11_line 109 = .ok (.aload_n 0, 1) := by decide +kernel
theorem dX11_line_110 : decode cX11_line 110 = .ok (.invokevirtual 297, 3) := by decide +kernel
theorem dX11_line_113 : decode cX11_line 113 = .ok (.aload_n 0, 1) := by decide +kernel
theorem dX11_line_114 : decode cX11_line 114 = .ok (.getfield 214, 3) := by decide +kernel
theorem dX11_line_117 : decode cX11_line 117 = .ok (.ifCond .eq 10, 3) := by decide +kernel
theorem dX11_line_120 : decode cX11_line 120 = .ok (.aload_n 0, 1) := by decide +kernel
theorem dX11_line_121 : decode cX11_line 121 = .ok (.invokevirtual 309, 3) := by decide +kernel
theorem dX11_line_124 : decode cX11_line 124 = .ok (.ifCond .eq 7, 3) := by decide +kernel
theorem dX11_line_127 : decode cX11_line 127 = .ok (.iconst 1, 1) := by decide +kernel
theorem dX11_line_128 : decode cX11_line 128 = .ok (.goto 4, 3) := by decide +kernel
theorem dX11_line_131 : decode cX11_line 131 = .ok (.iconst 0, 1) := by decide +kernel
theorem dX11_line_132 : decode cX11_line 132 = .ok (.ireturn, 1) := by decide +kernel
theorem dX11_begins_0 : decode cX11_begins 0 = .ok (.aload_n 0, 1) := by decide +kernel
theorem dX11_begins_1 : decode cX11_begins 1 = .ok (.invokevirtual 252, 3) := by decide +kernel
theorem dX11_begins_4 : decode cX11_begins 4 = .ok (.bipush 30, 2) := by decide +kernel
theorem dX11_begins_6 : decode cX11_begins 6 = .ok (.if_icmp .eq 8, 3) := by decide +kernel
theorem dX11_begins_9 : decode cX11_begins 9 = .ok (.aload_n 0, 1) := by decide +kernel
theorem dX11_begins_10 : decode cX11_begins 10 = .ok (.invokevirtual 309, 3) := by decide +kernel
theorem dX11_begins_13 : decode cX11_begins 13 = .ok (.ireturn, 1) := by decide +kernel
theorem dX11_begins_14 : decode cX11_begins 14 = .ok (.aload_n 0, 1) := by decide +kernel
theorem dX11_begins_15 : decode cX11_begins 15 = .ok (.invokevirtual 297, 3) := by decide +kernel
theorem dX11_begins_18 : decode cX11_begins 18 = .ok (.aload_n 0, 1) := by decide +kernel
theorem dX11_begins_19 : decode cX11_begins 19 = .ok (.invokevirtual 246, 3) := by decide +kernel
theorem dX11_begins_22 : decode cX11_begins 22 = .ok (.ifCond .ne 8, 3) := by decide +kernel
theorem dX11_begins_25 : decode cX11_begins 25 = .ok (.aload_n 0, 1) := by decide +kernel
theorem dX11_begins_26 : decode cX11_begins 26 = .ok (.invokevirtual 309, 3) := by decide +kernel
theorem dX11_begins_29 : decode cX11_begins 29 = .ok (.ireturn, 1) := by decide +kernel
theorem dX11_begins_30 : decode cX11_begins 30 = .ok (.aload_n 0, 1) := by decide +kernel
theorem dX11_begins_31 : decode cX11_begins 31 = .ok (.getfield 232, 3) := by decide +kernel
theorem dX11_begins_34 : decode cX11_begins 34 = .ok (.ifCond .lt 12, 3) := by decide +kernel
theorem dX11_begins_37 : decode cX11_begins 37 = .ok (.aload_n 0, 1) := by decide +kernel
theorem dX11_begins_38 : decode cX11_begins 38 = .ok (.getfield 232, 3) := by decide +kernel
theorem dX11_begins_41 : decode cX11_begins 41 = .ok (.ldc 87, 2) := by decide +kernel
theorem dX11_begins_43 : decode cX11_begins 43 = .ok (.if_icmp .le 13, 3) := by decide +kernel
theorem dX11_begins_46 : decode cX11_begins 46 = .ok (.aload_n 0, 1) := by decide +kernel
theorem dX11_begins_47 : decode cX11_begins 47 = .ok (.iconst 2, 1) := by decide +kernel
theorem dX11_begins_48 : decode cX11_begins 48 = .ok (.aload_n 0, 1) := by decide +kernel
theorem dX11_begins_49 : decode cX11_begins 49 = .ok (.getfield 211, 3) := by decide +kernel
theorem dX11_begins_52 : decode cX11_begins 52 = .ok (.invokevirtual 258, 3) := by decide +kernel
theorem dX11_begins_55 : decode cX11_begins 55 = .ok (.ireturn, 1) := by decide +kernel
theorem dX11_begins_56 : decode cX11_begins 56 = .ok (.aload_n 0, 1) := by decide +kernel
theorem dX11_begins_57 : decode cX11_begins 57 = .ok (.aload_n 0, 1) := by decide +kernel
theorem dX11_begins_58 : decode cX11_begins 58 = .ok (.getfield 232, 3) := by decide +kernel
theorem dX11_begins_61 : decode cX11_begins 61 = .ok (.putfield 274, 3) := by decide +kernel
theorem dX11_begins_64 : decode cX11_begins 64 = .ok (.aload_n 0, 1) := by decide +kernel
theorem dX11_begins_65 : decode cX11_begins 65 = .ok (.aload_n 0, 1) := by decide +kernel
theorem dX11_begins_66 : decode cX11_begins 66 = .ok (.getfield 232, 3) := by decide +kernel
theorem dX11_begins_69 : decode cX11_begins 69 = .ok (.putfield 318, 3) := by decide +kernel
theorem dX11_begins_72 : decode cX11_begins 72 = .ok (.aload_n 0, 1) := by decide +kernel
theorem dX11_begins_73 : decode cX11_begins 73 = .ok (.iconst 1, 1) := by decide +kernel
theorem dX11_begins_74 : decode cX11_begins 74 = .ok (.putfield 289, 3) := by decide +kernel
theorem dX11_begins_77 : decode cX11_begins 77 = .ok (.aload_n 0, 1) := by decide +kernel
theorem dX11_begins_78 : decode cX11_begins 78 = .ok (.invokevirtual 297, 3) := by decide +kernel
theorem dX11_begins_81 : decode cX11_begins 81 = .ok (.aload_n 0, 1) := by decide +kernel
theorem dX11_begins_82 : decode cX11_begins 82 = .ok (.getfield 214, 3) := by decide +kernel
theorem dX11_begins_85 : decode cX11_begins 85 = .ok (.ifCond .eq 10, 3) := by decide +kernel
theorem dX11_begins_88 : decode cX11_begins 88 = .ok (.aload_n 0, 1) := by decide +kernel
theorem dX11_begins_89 : decode cX11_begins 89 = .ok (.invokevirtual 309, 3) := by decide +kernel
theorem dX11_begins_92 : decode cX11_begins 92 = .ok (.ifCond .eq 7, 3) := by decide +kernel
theorem dX11_begins_95 : decode cX11_begins 95 = .ok (.iconst 1, 1) := by decide +kernel
theorem dX11_begins_96 : decode cX11_begins 96 = .ok (.goto 4, 3) := by decide +kernel
theorem dX11_begins_99 : decode cX11_begins 99 = .ok (.iconst 0, 1) := by decide +kernel
theorem dX11_begins_100 : decode cX11_begins 100 = .ok (.ireturn, 1) := by decide +kernel
theorem dX11_which_0 : decode cX11_which 0 = .ok (.iconst 0, 1) := by decide +kernel
theorem dX11_which_1 : decode cX11_which 1 = .ok (.istore_n 1, 1) := by decide +kernel
theorem dX11_which_2 : decode cX11_which 2 = .ok (.iload_n 1, 1) := by decide +kernel
theorem dX11_which_3 : decode cX11_which 3 = .ok (.aload_n 0, 1) := by decide +kernel
theorem dX11_which_4 : decode cX11_which 4 = .ok (.getfield 262, 3) := by decide +kernel
theorem dX11_which_7 : decode cX11_which 7 = .ok (.if_icmp .ge 100, 3) := by decide +kernel
theorem dX11_which_10 : decode cX11_which 10 = .ok (.aload_n 0, 1) := by decide +kernel
theorem dX11_which_11 : decode cX11_which 11 = .ok (.getfield 42, 3) := by decide +kernel
theorem dX11_which_14 : decode cX11_which 14 = .ok (.iload_n 1, 1) := by decide +kernel
theorem dX11_which_15 : decode cX11_which 15 = .ok (.iaload, 1) := by decide +kernel
theorem dX11_which_16 : decode cX11_which 16 = .ok (.aload_n 0, 1) := by decide +kernel
theorem dX11_which_17 : decode cX11_which 17 = .ok (.getfield 223, 3) := by decide +kernel
theorem dX11_which_20 : decode cX11_which 20 = .ok (.aload_n 0, 1) := by decide +kernel
theorem dX11_which_21 : decode cX11_which 21 = .ok (.getfield 211, 3) := by decide +kernel
theorem dX11_which_24 : decode cX11_which 24 = .ok (.isub, 1) := by decide +kernel
theorem dX11_which_25 : decode cX11_which 25 = .ok (.if_icmp .ne 7, 3) := by decide +kernel
theorem dX11_which_28 : decode cX11_which 28 = .ok (.iconst 1, 1) := by decide +kernel
theorem dX11_which_29 : decode cX11_which 29 = .ok (.goto 4, 3) := by decide +kernel
theorem dX11_which_32 : decode cX11_which 32 = .ok (.iconst 0, 1) := by decide +kernel
theorem dX11_which_33 : decode cX11_which 33 = .ok (.istore_n 2, 1) := by decide +kernel
theorem dX11_which_34 : decode cX11_which 34 = .ok (.iconst 0, 1) := by decide +kernel
theorem dX11_which_35 : decode cX11_which 35 = .ok (.istore_n 3, 1) := by decide +kernel
theorem dX11_which_36 : decode cX11_which 36 = .ok (.iload_n 3, 1) := by decide +kernel
theorem dX11_which_37 : decode cX11_which 37 = .ok (.aload_n 0, 1) := by decide +kernel
theorem dX11_which_38 : decode cX11_which 38 = .ok (.getfield 42, 3) := by decide +kernel
theorem dX11_which_41 : decode cX11_which 41 = .ok (.iload_n 1, 1) := by decide +kernel
theorem dX11_which_42 : decode cX11_which 42 = .ok (.iaload, 1) := by decide +kernel
theorem dX11_which_43 : decode cX11_which 43 = .ok (.if_icmp .ge 52, 3) := by decide +kernel
theorem dX11_which_46 : decode cX11_which 46 = .ok (.iload_n 2, 1) := by decide +kernel
theorem dX11_which_47 : decode cX11_which 47 = .ok (.ifCond .eq 48, 3) := by decide +kernel
theorem dX11_which_50 : decode cX11_which 50 = .ok (.aload_n 0, 1) := by decide +kernel
theorem dX11_which_51 : decode cX11_which 51 = .ok (.getfield 23, 3) := by decide +kernel
theorem dX11_which_54 : decode cX11_which 54 = .ok (.aload_n 0, 1) := by decide +kernel
theorem dX11_which_55 : decode cX11_which 55 = .ok (.getfield 39, 3) := by decide +kernel
theorem dX11_which_58 : decode cX11_which 58 = .ok (.iload_n 1, 1) := by decide +kernel
theorem dX11_which_59 : decode cX11_which 59 = .ok (.iaload, 1) := by decide +kernel
theorem dX11_which_60 : decode cX11_which 60 = .ok (.iload_n 3, 1) := by decide +kernel
theorem dX11_which_61 : decode cX11_which 61 = .ok (.iadd, 1) := by decide +kernel
theorem dX11_which_62 : decode cX11_which 62 = .ok (.iaload, 1) := by decide +kernel
theorem dX11_which_63 : decode cX11_which 63 = .ok (.invokestatic 193, 3) := by decide +kernel
theorem dX11_which_66 : decode cX11_which 66 = .ok (.aload_n 0, 1) := by decide +kernel
theorem dX11_which_67 : decode cX11_which 67 = .ok (.getfield 23, 3) := by decide +kernel
theorem dX11_which_70 : decode cX11_which 70 = .ok (.aload_n 0, 1) := by decide +kernel
theorem dX11_which_71 : decode cX11_which 71 = .ok (.getfield 211, 3) := by decide +kernel
theorem dX11_which_74 : decode cX11_which 74 = .ok (.iload_n 3, 1) := by decide +kernel
theorem dX11_which_75 : decode cX11_which 75 = .ok (.iadd, 1) := by decide +kernel
theorem dX11_which_76 : decode cX11_which 76 = .ok (.iaload, 1) := by decide +kernel
theorem dX11_which_77 : decode cX11_which 77 = .ok (.invokestatic 193, 3) := by decide +kernel
theorem dX11_which_80 : decode cX11_which 80 = .ok (.if_icmp .ne 7, 3) := by decide +kernel
theorem dX11_which_83 : decode cX11_which 83 = .ok (.iconst 1, 1) := by decide +kernel
theorem dX11_which_84 : decode cX11_which 84 = .ok (.goto 4, 3) := by decide +kernel
theorem dX11_which_87 : decode cX11_which 87 = .ok (.iconst 0, 1) := by decide +kernel
theorem dX11_which_88 : decode cX11_which 88 = .ok (.istore_n 2, 1) := by decide +kernel
theorem dX11_which_89 : decode cX11_which 89 = .ok (.iinc 3 1, 3) := by decide +kernel
theorem dX11_which_92 : decode cX11_which 92 = .ok (.goto (-56), 3) := by decide +kernel
theorem dX11_which_95 : decode cX11_which 95 = .ok (.iload_n 2, 1) := by decide +kernel
theorem dX11_which_96 : decode cX11_which 96 = .ok (.ifCond .eq 5, 3) := by decide +kernel
theorem dX11_which_99 : decode cX11_which 99 = .ok (.iload_n 1, 1) := by decide +kernel
theorem dX11_which_100 : decode cX11_which 100 = .ok (.ireturn, 1) := by decide +kernel
theorem dX11_which_101 : decode cX11_which 101 = .ok (.iinc 1 1, 3) := by decide +kernel
theorem dX11_which_104 : decode cX11_which 104 = .ok (.goto (-102), 3) := by decide +kernel
theorem dX11_which_107 : decode cX11_which 107 = .ok (.iconst (-1), 1) := by decide +kernel
theorem dX11_which_108 : decode cX11_which 108 = .ok (.ireturn, 1) := by decide +kernel
theorem dX11_tells_0 : decode cX11_tells 0 = .ok (.aload_n 0, 1) := by decide +kernel
theorem dX11_tells_1 : decode cX11_tells 1 = .ok (.getfield 265, 3) := by decide +kernel
theorem dX11_tells_4 : decode cX11_tells 4 = .ok (.ifCond .eq 5, 3) := by decide +kernel
theorem dX11_tells_7 : decode cX11_tells 7 = .ok (.iconst 1, 1) := by decide +kernel
theorem dX11_tells_8 : decode cX11_tells 8 = .ok (.ireturn, 1) := by decide +kernel
theorem dX11_tells_9 : decode cX11_tells 9 = .ok (.aload_n 0, 1) := by decide +kernel
theorem dX11_tells_10 : decode cX11_tells 10 = .ok (.invokevirtual 321, 3) := by decide +kernel
theorem dX11_tells_13 : decode cX11_tells 13 = .ok (.iconst (-1), 1) := by decide +kernel
theorem dX11_tells_14 : decode cX11_tells 14 = .ok (.if_icmp .eq 13, 3) := by decide +kernel
theorem dX11_tells_17 : decode cX11_tells 17 = .ok (.aload_n 0, 1) := by decide +kernel
theorem dX11_tells_18 : decode cX11_tells 18 = .ok (.iconst 3, 1) := by decide +kernel
theorem dX11_tells_19 : decode cX11_tells 19 = .ok (.aload_n 0, 1) := by decide +kernel
theorem dX11_tells_20 : decode cX11_tells 20 = .ok (.getfield 211, 3) := by decide +kernel
theorem dX11_tells_23 : decode cX11_tells 23 = .ok (.invokevirtual 258, 3) := by decide +kernel
theorem dX11_tells_26 : decode cX11_tells 26 = .ok (.ireturn, 1) := by decide +kernel
theorem dX11_tells_27 : decode cX11_tells 27 = .ok (.aload_n 0, 1) := by decide +kernel
theorem dX11_tells_28 : decode cX11_tells 28 = .ok (.getfield 262, 3) := by decide +kernel
theorem dX11_tells_31 : decode cX11_tells 31 = .ok (.sipush 200, 3) := by decide +kernel
theorem dX11_tells_34 : decode cX11_tells 34 = .ok (.if_icmp .ne 13, 3) := by decide +kernel
theorem dX11_tells_37 : decode cX11_tells 37 = .ok (.aload_n 0, 1) := by decide +kernel
theorem dX11_tells_38 : decode cX11_tells 38 = .ok (.iconst 4, 1) := by decide +kernel
theorem dX11_tells_39 : decode cX11_tells 39 = .ok (.aload_n 0, 1) := by decide +kernel
theorem dX11_tells_40 : decode cX11_tells 40 = .ok (.getfield 211, 3) := by decide +kernel
theorem dX11_tells_43 : decode cX11_tells 43 = .ok (.invokevirtual 258, 3) := by decide +kernel
theorem dX11_tells_46 : decode cX11_tells 46 = .ok (.ireturn, 1) := by decide +kernel
theorem dX11_tells_47 : decode cX11_tells 47 = .ok (.aload_n 0, 1) := by decide +kernel
theorem dX11_tells_48 : decode cX11_tells 48 = .ok (.getfield 39, 3) := by decide +kernel
theorem dX11_tells_51 : decode cX11_tells 51 = .ok (.aload_n 0, 1) := by decide +kernel
theorem dX11_tells_52 : decode cX11_tells 52 = .ok (.getfield 262, 3) := by decide +kernel
theorem dX11_tells_55 : decode cX11_tells 55 = .ok (.aload_n 0, 1) := by decide +kernel
theorem dX11_tells_56 : decode cX11_tells 56 = .ok (.getfield 211, 3) := by decide +kernel
theorem dX11_tells_59 : decode cX11_tells 59 = .ok (.iastore, 1) := by decide +kernel
theorem dX11_tells_60 : decode cX11_tells 60 = .ok (.aload_n 0, 1) := by decide +kernel
theorem dX11_tells_61 : decode cX11_tells 61 = .ok (.getfield 42, 3) := by decide +kernel
theorem dX11_tells_64 : decode cX11_tells 64 = .ok (.aload_n 0, 1) := by decide +kernel
theorem dX11_tells_65 : decode cX11_tells 65 = .ok (.getfield 262, 3) := by decide +kernel
theorem dX11_tells_68 : decode cX11_tells 68 = .ok (.aload_n 0, 1) := by decide +kernel
theorem dX11_tells_69 : decode cX11_tells 69 = .ok (.getfield 223, 3) := by decide +kernel
theorem dX11_tells_72 : decode cX11_tells 72 = .ok (.aload_n 0, 1) := by decide +kernel
theorem dX11_tells_73 : decode cX11_tells 73 = .ok (.getfield 211, 3) := by decide +kernel
theorem dX11_tells_76 : decode cX11_tells 76 = .ok (.isub, 1) := by decide +kernel
theorem dX11_tells_77 : decode cX11_tells 77 = .ok (.iastore, 1) := by decide +kernel
theorem dX11_tells_78 : decode cX11_tells 78 = .ok (.aload_n 0, 1) := by decide +kernel
theorem dX11_tells_79 : decode cX11_tells 79 = .ok (.getfield 45, 3) := by decide +kernel
theorem dX11_tells_82 : decode cX11_tells 82 = .ok (.aload_n 0, 1) := by decide +kernel
theorem dX11_tells_83 : decode cX11_tells 83 = .ok (.getfield 262, 3) := by decide +kernel
theorem dX11_tells_86 : decode cX11_tells 86 = .ok (.aload_n 0, 1) := by decide +kernel
theorem dX11_tells_87 : decode cX11_tells 87 = .ok (.getfield 318, 3) := by decide +kernel
theorem dX11_tells_90 : decode cX11_tells 90 = .ok (.iastore, 1) := by decide +kernel
theorem dX11_tells_91 : decode cX11_tells 91 = .ok (.aload_n 0, 1) := by decide +kernel
theorem dX11_tells_92 : decode cX11_tells 92 = .ok (.dup, 1) := by decide +kernel
theorem dX11_tells_93 : decode cX11_tells 93 = .ok (.getfield 262, 3) := by decide +kernel
theorem dX11_tells_96 : decode cX11_tells 96 = .ok (.iconst 1, 1) := by decide +kernel
theorem dX11_tells_97 : decode cX11_tells 97 = .ok (.iadd, 1) := by decide +kernel
theorem dX11_tells_98 : decode cX11_tells 98 = .ok (.putfield 262, 3) := by decide +kernel
theorem dX11_tells_101 : decode cX11_tells 101 = .ok (.iconst 1, 1) := by decide +kernel
theorem dX11_tells_102 : decode cX11_tells 102 = .ok (.ireturn, 1) := by decide +kernel
theorem dX11_hasRoom_0 : decode cX11_hasRoom 0 = .ok (.aload_n 0, 1) := by decide +kernel
theorem dX11_hasRoom_1 : decode cX11_hasRoom 1 = .ok (.getfield 318, 3) := by decide +kernel
theorem dX11_hasRoom_4 : decode cX11_hasRoom 4 = .ok (.iload_n 1, 1) := by decide +kernel
theorem dX11_hasRoom_5 : decode cX11_hasRoom 5 = .ok (.iadd, 1) := by decide +kernel
theorem dX11_hasRoom_6 : decode cX11_hasRoom 6 = .ok (.ldc 7, 2) := by decide +kernel
theorem dX11_hasRoom_8 : decode cX11_hasRoom 8 = .ok (.if_icmp .gt 15, 3) := by decide +kernel
theorem dX11_hasRoom_11 : decode cX11_hasRoom 11 = .ok (.aload_n 0, 1) := by decide +kernel
theorem dX11_hasRoom_12 : decode cX11_hasRoom 12 = .ok (.getfield 280, 3) := by decide +kernel
theorem dX11_hasRoom_15 : decode cX11_hasRoom 15 = .ok (.iload_n 1, 1) := by decide +kernel
theorem dX11_hasRoom_16 : decode cX11_hasRoom 16 = .ok (.iadd, 1) := by decide +kernel
theorem dX11_hasRoom_17 : decode cX11_hasRoom 17 = .ok (.sipush 4096, 3) := by decide +kernel
theorem dX11_hasRoom_20 : decode cX11_hasRoom 20 = .ok (.if_icmp .le 12, 3) := by decide +kernel
theorem dX11_hasRoom_23 : decode cX11_hasRoom 23 = .ok (.aload_n 0, 1) := by decide +kernel
theorem dX11_hasRoom_24 : decode cX11_hasRoom 24 = .ok (.iconst 4, 1) := by decide +kernel
theorem dX11_hasRoom_25 : decode cX11_hasRoom 25 = .ok (.iload_n 2, 1) := by decide +kernel
theorem dX11_hasRoom_26 : decode cX11_hasRoom 26 = .ok (.invokevirtual 258, 3) := by decide +kernel
theorem dX11_hasRoom_29 : decode cX11_hasRoom 29 = .ok (.ifCond .eq 7, 3) := by decide +kernel
theorem dX11_hasRoom_32 : decode cX11_hasRoom 32 = .ok (.iconst 1, 1) := by decide +kernel
theorem dX11_hasRoom_33 : decode cX11_hasRoom 33 = .ok (.goto 4, 3) := by decide +kernel
theorem dX11_hasRoom_36 : decode cX11_hasRoom 36 = .ok (.iconst 0, 1) := by decide +kernel
theorem dX11_hasRoom_37 : decode cX11_hasRoom 37 = .ok (.ireturn, 1) := by decide +kernel
theorem dX11_lay_0 : decode cX11_lay 0 = .ok (.aload_n 0, 1) := by decide +kernel
theorem dX11_lay_1 : decode cX11_lay 1 = .ok (.getfield 36, 3) := by decide +kernel
theorem dX11_lay_4 : decode cX11_lay 4 = .ok (.aload_n 0, 1) := by decide +kernel
theorem dX11_lay_5 : decode cX11_lay 5 = .ok (.getfield 280, 3) := by decide +kernel
theorem dX11_lay_8 : decode cX11_lay 8 = .ok (.iload_n 1, 1) := by decide +kernel
theorem dX11_lay_9 : decode cX11_lay 9 = .ok (.invokestatic 93, 3) := by decide +kernel
theorem dX11_lay_12 : decode cX11_lay 12 = .ok (.iastore, 1) := by decide +kernel
theorem dX11_lay_13 : decode cX11_lay 13 = .ok (.aload_n 0, 1) := by decide +kernel
theorem dX11_lay_14 : decode cX11_lay 14 = .ok (.dup, 1) := by decide +kernel
theorem dX11_lay_15 : decode cX11_lay 15 = .ok (.getfield 280, 3) := by decide +kernel
theorem dX11_lay_18 : decode cX11_lay 18 = .ok (.iconst 1, 1) := by decide +kernel
theorem dX11_lay_19 : decode cX11_lay 19 = .ok (.iadd, 1) := by decide +kernel
theorem dX11_lay_20 : decode cX11_lay 20 = .ok (.putfield 280, 3) := by decide +kernel
theorem dX11_lay_23 : decode cX11_lay 23 = .ok (.aload_n 0, 1) := by decide +kernel
theorem dX11_lay_24 : decode cX11_lay 24 = .ok (.dup, 1) := by decide +kernel
theorem dX11_lay_25 : decode cX11_lay 25 = .ok (.getfield 318, 3) := by decide +kernel
theorem dX11_lay_28 : decode cX11_lay 28 = .ok (.iconst 1, 1) := by decide +kernel
theorem dX11_lay_29 : decode cX11_lay 29 = .ok (.iadd, 1) := by decide +kernel
theorem dX11_lay_30 : decode cX11_lay 30 = .ok (.putfield 318, 3) := by decide +kernel
theorem dX11_lay_33 : decode cX11_lay 33 = .ok (.return_, 1) := by decide +kernel
theorem dX11_dotted_0 : decode cX11_dotted 0 = .ok (.iload_n 1, 1) := by decide +kernel
theorem dX11_dotted_1 : decode cX11_dotted 1 = .ok (.bipush 34, 2) := by decide +kernel
theorem dX11_dotted_3 : decode cX11_dotted 3 = .ok (.if_icmp .ne 10, 3) := by decide +kernel
theorem dX11_dotted_6 : decode cX11_dotted 6 = .ok (.aload_n 0, 1) := by decide +kernel
theorem dX11_dotted_7 : decode cX11_dotted 7 = .ok (.iconst 1, 1) := by decide +kernel
theorem dX11_dotted_8 : decode cX11_dotted 8 = .ok (.putfield 292, 3) := by decide +kernel
theorem dX11_dotted_11 : decode cX11_dotted 11 = .ok (.iconst 1, 1) := by decide +kernel
theorem dX11_dotted_12 : decode cX11_dotted 12 = .ok (.ireturn, 1) := by decide +kernel
theorem dX11_dotted_13 : decode cX11_dotted 13 = .ok (.iload_n 1, 1) := by decide +kernel
theorem dX11_dotted_14 : decode cX11_dotted 14 = .ok (.bipush 31, 2) := by decide +kernel
theorem dX11_dotted_16 : decode cX11_dotted 16 = .ok (.if_icmp .ne 43, 3) := by decide +kernel
theorem dX11_dotted_19 : decode cX11_dotted 19 = .ok (.aload_n 0, 1) := by decide +kernel
theorem dX11_dotted_20 : decode cX11_dotted 20 = .ok (.iconst 1, 1) := by decide +kernel
theorem dX11_dotted_21 : decode cX11_dotted 21 = .ok (.iload_n 2, 1) := by decide +kernel
theorem dX11_dotted_22 : decode cX11_dotted 22 = .ok (.invokevirtual 324, 3) := by decide +kernel
theorem dX11_dotted_25 : decode cX11_dotted 25 = .ok (.ifCond .ne 5, 3) := by decide +kernel
theorem dX11_dotted_28 : decode cX11_dotted 28 = .ok (.iconst 0, 1) := by decide +kernel
theorem dX11_dotted_29 : decode cX11_dotted 29 = .ok (.ireturn, 1) := by decide +kernel
theorem dX11_dotted_30 : decode cX11_dotted 30 = .ok (.aload_n 0, 1) := by decide +kernel
theorem dX11_dotted_31 : decode cX11_dotted 31 = .ok (.invokevirtual 297, 3) := by decide +kernel
theorem dX11_dotted_34 : decode cX11_dotted 34 = .ok (.aload_n 0, 1) := by decide +kernel
theorem dX11_dotted_35 : decode cX11_dotted 35 = .ok (.sipush (-32768), 3) := by decide +kernel
theorem dX11_dotted_38 : decode cX11_dotted 38 = .ok (.ldc 87, 2) := by decide +kernel
theorem dX11_dotted_40 : decode cX11_dotted 40 = .ok (.iconst 0, 1) := by decide +kernel
theorem dX11_dotted_41 : decode cX11_dotted 41 = .ok (.invokevirtual 327, 3) := by decide +kernel
theorem dX11_dotted_44 : decode cX11_dotted 44 = .ok (.ifCond .ne 5, 3) := by decide +kernel
theorem dX11_dotted_47 : decode cX11_dotted 47 = .ok (.iconst 0, 1) := by decide +kernel
theorem dX11_dotted_48 : decode cX11_dotted 48 = .ok (.ireturn, 1) := by decide +kernel
theorem dX11_dotted_49 : decode cX11_dotted 49 = .ok (.aload_n 0, 1) := by decide +kernel
theorem dX11_dotted_50 : decode cX11_dotted 50 = .ok (.aload_n 0, 1) := by decide +kernel
theorem dX11_dotted_51 : decode cX11_dotted 51 = .ok (.getfield 331, 3) := by decide +kernel
theorem dX11_dotted_54 : decode cX11_dotted 54 = .ok (.invokevirtual 334, 3) := by decide +kernel
theorem dX11_dotted_57 : decode cX11_dotted 57 = .ok (.iconst 1, 1) := by decide +kernel
theorem dX11_dotted_58 : decode cX11_dotted 58 = .ok (.ireturn, 1) := by decide +kernel
theorem dX11_dotted_59 : decode cX11_dotted 59 = .ok (.aload_n 0, 1) := by decide +kernel
theorem dX11_dotted_60 : decode cX11_dotted 60 = .ok (.invokevirtual 297, 3) := by decide +kernel
theorem dX11_dotted_63 : decode cX11_dotted 63 = .ok (.iload_n 1, 1) := by decide +kernel
theorem dX11_dotted_64 : decode cX11_dotted 64 = .ok (.bipush 32, 2) := by decide +kernel
theorem dX11_dotted_66 : decode cX11_dotted 66 = .ok (.if_icmp .ne 84, 3) := by decide +kernel
theorem dX11_dotted_69 : decode cX11_dotted 69 = .ok (.aload_n 0, 1) := by decide +kernel
theorem dX11_dotted_70 : decode cX11_dotted 70 = .ok (.invokevirtual 246, 3) := by decide +kernel
theorem dX11_dotted_73 : decode cX11_dotted 73 = .ok (.ifCond .ne 8, 3) := by decide +kernel
theorem dX11_dotted_76 : decode cX11_dotted 76 = .ok (.aload_n 0, 1) := by decide +kernel
theorem dX11_dotted_77 : decode cX11_dotted 77 = .ok (.invokevirtual 309, 3) := by decide +kernel
theorem dX11_dotted_80 : decode cX11_dotted 80 = .ok (.ireturn, 1) := by decide +kernel
theorem dX11_dotted_81 : decode cX11_dotted 81 = .ok (.aload_n 0, 1) := by decide +kernel
theorem dX11_dotted_82 : decode cX11_dotted 82 = .ok (.getfield 232, 3) := by decide +kernel
theorem dX11_dotted_85 : decode cX11_dotted 85 = .ok (.iconst 1, 1) := by decide +kernel
theorem dX11_dotted_86 : decode cX11_dotted 86 = .ok (.if_icmp .lt 13, 3) := by decide +kernel
theorem dX11_dotted_89 : decode cX11_dotted 89 = .ok (.aload_n 0, 1) := by decide +kernel
theorem dX11_dotted_90 : decode cX11_dotted 90 = .ok (.getfield 232, 3) := by decide +kernel
theorem dX11_dotted_93 : decode cX11_dotted 93 = .ok (.sipush 4096, 3) := by decide +kernel
theorem dX11_dotted_96 : decode cX11_dotted 96 = .ok (.if_icmp .le 13, 3) := by decide +kernel
theorem dX11_dotted_99 : decode cX11_dotted 99 = .ok (.aload_n 0, 1) := by decide +kernel
theorem dX11_dotted_100 : decode cX11_dotted 100 = .ok (.iconst 2, 1) := by decide +kernel
theorem dX11_dotted_101 : decode cX11_dotted 101 = .ok (.aload_n 0, 1) := by decide +kernel
theorem dX11_dotted_102 : decode cX11_dotted 102 = .ok (.getfield 211, 3) := by decide +kernel
theorem dX11_dotted_105 : decode cX11_dotted 105 = .ok (.invokevirtual 258, 3) := by decide +kernel
theorem dX11_dotted_108 : decode cX11_dotted 108 = .ok (.ireturn, 1) := by decide +kernel
theorem dX11_dotted_109 : decode cX11_dotted 109 = .ok (.aload_n 0, 1) := by decide +kernel
theorem dX11_dotted_110 : decode cX11_dotted 110 = .ok (.aload_n 0, 1) := by decide +kernel
theorem dX11_dotted_111 : decode cX11_dotted 111 = .ok (.getfield 232, 3) := by decide +kernel
theorem dX11_dotted_114 : decode cX11_dotted 114 = .ok (.iload_n 2, 1) := by decide +kernel
theorem dX11_dotted_115 : decode cX11_dotted 115 = .ok (.invokevirtual 324, 3) := by decide +kernel
theorem dX11_dotted_118 : decode cX11_dotted 118 = .ok (.ifCond .ne 5, 3) := by decide +kernel
theorem dX11_dotted_121 : decode cX11_dotted 121 = .ok (.iconst 0, 1) := by decide +kernel
theorem dX11_dotted_122 : decode cX11_dotted 122 = .ok (.ireturn, 1) := by decide +kernel
theorem dX11_dotted_123 : decode cX11_dotted 123 = .ok (.aload_n 0, 1) := by decide +kernel
theorem dX11_dotted_124 : decode cX11_dotted 124 = .ok (.getfield 232, 3) := by decide +kernel
theorem dX11_dotted_127 : decode cX11_dotted 127 = .ok (.istore_n 3, 1) := by decide +kernel
theorem dX11_dotted_128 : decode cX11_dotted 128 = .ok (.iconst 0, 1) := by decide +kernel
theorem dX11_dotted_129 : decode cX11_dotted 129 = .ok (.istore 4, 2) := by decide +kernel
theorem dX11_dotted_131 : decode cX11_dotted 131 = .ok (.iload 4, 2) := by decide +kernel
theorem dX11_dotted_133 : decode cX11_dotted 133 = .ok (.iload_n 3, 1) := by decide +kernel
theorem dX11_dotted_134 : decode cX11_dotted 134 = .ok (.if_icmp .ge 14, 3) := by decide +kernel
theorem dX11_dotted_137 : decode cX11_dotted 137 = .ok (.aload_n 0, 1) := by decide +kernel
theorem dX11_dotted_138 : decode cX11_dotted 138 = .ok (.iconst 0, 1) := by decide +kernel
theorem dX11_dotted_139 : decode cX11_dotted 139 = .ok (.invokevirtual 334, 3) := by decide +kernel
theorem dX11_dotted_142 : decode cX11_dotted 142 = .ok (.iinc 4 1, 3) := by decide +kernel
theorem dX11_dotted_145 : decode cX11_dotted 145 = .ok (.goto (-14), 3) := by decide +kernel
theorem dX11_dotted_148 : decode cX11_dotted 148 = .ok (.iconst 1, 1) := by decide +kernel
theorem dX11_dotted_149 : decode cX11_dotted 149 = .ok (.ireturn, 1) := by decide +kernel
theorem dX11_dotted_150 : decode cX11_dotted 150 = .ok (.aload_n 0, 1) := by decide +kernel
theorem dX11_dotted_151 : decode cX11_dotted 151 = .ok (.getfield 214, 3) := by decide +kernel
theorem dX11_dotted_154 : decode cX11_dotted 154 = .ok (.iconst 2, 1) := by decide +kernel
theorem dX11_dotted_155 : decode cX11_dotted 155 = .ok (.if_icmp .eq 8, 3) := by decide +kernel
theorem dX11_dotted_158 : decode cX11_dotted 158 = .ok (.aload_n 0, 1) := by decide +kernel
theorem dX11_dotted_159 : decode cX11_dotted 159 = .ok (.invokevirtual 309, 3) := by decide +kernel
theorem dX11_dotted_162 : decode cX11_dotted 162 = .ok (.ireturn, 1) := by decide +kernel
theorem dX11_dotted_163 : decode cX11_dotted 163 = .ok (.aload_n 0, 1) := by decide +kernel
theorem dX11_dotted_164 : decode cX11_dotted 164 = .ok (.aload_n 0, 1) := by decide +kernel
theorem dX11_dotted_165 : decode cX11_dotted 165 = .ok (.getfield 226, 3) := by decide +kernel
theorem dX11_dotted_168 : decode cX11_dotted 168 = .ok (.iconst 1, 1) := by decide +kernel
theorem dX11_dotted_169 : decode cX11_dotted 169 = .ok (.iadd, 1) := by decide +kernel
theorem dX11_dotted_170 : decode cX11_dotted 170 = .ok (.iload_n 2, 1) := by decide +kernel
theorem dX11_dotted_171 : decode cX11_dotted 171 = .ok (.invokevirtual 324, 3) := by decide +kernel
theorem dX11_dotted_174 : decode cX11_dotted 174 = .ok (.ifCond .ne 5, 3) := by decide +kernel
theorem dX11_dotted_177 : decode cX11_dotted 177 = .ok (.iconst 0, 1) := by decide +kernel
theorem dX11_dotted_178 : decode cX11_dotted 178 = .ok (.ireturn, 1) := by decide +kernel
theorem dX11_dotted_179 : decode cX11_dotted 179 = .ok (.iconst 0, 1) := by decide +kernel
theorem dX11_dotted_180 : decode cX11_dotted 180 = .ok (.istore_n 3, 1) := by decide +kernel
theorem dX11_dotted_181 : decode cX11_dotted 181 = .ok (.iload_n 3, 1) := by decide +kernel
theorem dX11_dotted_182 : decode cX11_dotted 182 = .ok (.aload_n 0, 1) := by decide +kernel
theorem dX11_dotted_183 : decode cX11_dotted 183 = .ok (.getfield 226, 3) := by decide +kernel
theorem dX11_dotted_186 : decode cX11_dotted 186 = .ok (.if_icmp .ge 19, 3) := by decide +kernel
theorem dX11_dotted_189 : decode cX11_dotted 189 = .ok (.aload_n 0, 1) := by decide +kernel
theorem dX11_dotted_190 : decode cX11_dotted 190 = .ok (.aload_n 0, 1) := by decide +kernel
theorem dX11_dotted_191 : decode cX11_dotted 191 = .ok (.getfield 51, 3) := by decide +kernel
theorem dX11_dotted_194 : decode cX11_dotted 194 = .ok (.iload_n 3, 1) := by decide +kernel
theorem dX11_dotted_195 : decode cX11_dotted 195 = .ok (.iaload, 1) := by decide +kernel
theorem dX11_dotted_196 : decode cX11_dotted 196 = .ok (.invokevirtual 334, 3) := by decide +kernel
theorem dX11_dotted_199 : decode cX11_dotted 199 = .ok (.iinc 3 1, 3) := by decide +kernel
theorem dX11_dotted_202 : decode cX11_dotted 202 = .ok (.goto (-21), 3) := by decide +kernel
theorem dX11_dotted_205 : decode cX11_dotted 205 = .ok (.aload_n 0, 1) := by decide +kernel
theorem dX11_dotted_206 : decode cX11_dotted 206 = .ok (.iconst 0, 1) := by decide +kernel
theorem dX11_dotted_207 : decode cX11_dotted 207 = .ok (.invokevirtual 334, 3) := by decide +kernel
theorem dX11_dotted_210 : decode cX11_dotted 210 = .ok (.iconst 1, 1) := by decide +kernel
theorem dX11_dotted_211 : decode cX11_dotted 211 = .ok (.ireturn, 1) := by decide +kernel
theorem dX11_value_0 : decode cX11_value 0 = .ok (.aload_n 0, 1) := by decide +kernel
theorem dX11_value_1 : decode cX11_value 1 = .ok (.iconst 0, 1) := by decide +kernel
theorem dX11_value_2 : decode cX11_value 2 = .ok (.putfield 331, 3) := by decide +kernel
theorem dX11_value_5 : decode cX11_value 5 = .ok (.aload_n 0, 1) := by decide +kernel
theorem dX11_value_6 : decode cX11_value 6 = .ok (.invokevirtual 246, 3) := by decide +kernel
theorem dX11_value_9 : decode cX11_value 9 = .ok (.ifCond .eq 45, 3) := by decide +kernel
theorem dX11_value_12 : decode cX11_value 12 = .ok (.aload_n 0, 1) := by decide +kernel
theorem dX11_value_13 : decode cX11_value 13 = .ok (.aload_n 0, 1) := by decide +kernel
theorem dX11_value_14 : decode cX11_value 14 = .ok (.getfield 232, 3) := by decide +kernel
theorem dX11_value_17 : decode cX11_value 17 = .ok (.putfield 331, 3) := by decide +kernel
theorem dX11_value_20 : decode cX11_value 20 = .ok (.aload_n 0, 1) := by decide +kernel
theorem dX11_value_21 : decode cX11_value 21 = .ok (.getfield 232, 3) := by decide +kernel
theorem dX11_value_24 : decode cX11_value 24 = .ok (.iload_n 1, 1) := by decide +kernel
theorem dX11_value_25 : decode cX11_value 25 = .ok (.if_icmp .lt 11, 3) := by decide +kernel
theorem dX11_value_28 : decode cX11_value 28 = .ok (.aload_n 0, 1) := by decide +kernel
theorem dX11_value_29 : decode cX11_value 29 = .ok (.getfield 232, 3) := by decide +kernel
theorem dX11_value_32 : decode cX11_value 32 = .ok (.iload_n 2, 1) := by decide +kernel
theorem dX11_value_33 : decode cX11_value 33 = .ok (.if_icmp .le 15, 3) := by decide +kernel
theorem dX11_value_36 : decode cX11_value 36 = .ok (.aload_n 0, 1) := by decide +kernel
theorem dX11_value_37 : decode cX11_value 37 = .ok (.iconst 2, 1) := by decide +kernel
theorem dX11_value_38 : decode cX11_value 38 = .ok (.aload_n 0, 1) := by decide +kernel
theorem dX11_value_39 : decode cX11_value 39 = .ok (.getfield 211, 3) := by decide +kernel
theorem dX11_value_42 : decode cX11_value 42 = .ok (.invokevirtual 258, 3) := by decide +kernel
theorem dX11_value_45 : decode cX11_value 45 = .ok (.ifCond .eq 7, 3) := by decide +kernel
theorem dX11_value_48 : decode cX11_value 48 = .ok (.iconst 1, 1) := by decide +kernel
theorem dX11_value_49 : decode cX11_value 49 = .ok (.goto 4, 3) := by decide +kernel
theorem dX11_value_52 : decode cX11_value 52 = .ok (.iconst 0, 1) := by decide +kernel
theorem dX11_value_53 : decode cX11_value 53 = .ok (.ireturn, 1) := by decide +kernel
theorem dX11_value_54 : decode cX11_value 54 = .ok (.aload_n 0, 1) := by decide +kernel
theorem dX11_value_55 : decode cX11_value 55 = .ok (.invokevirtual 303, 3) := by decide +kernel
theorem dX11_value_58 : decode cX11_value 58 = .ok (.ifCond .ne 8, 3) := by decide +kernel
theorem dX11_value_61 : decode cX11_value 61 = .ok (.aload_n 0, 1) := by decide +kernel
theorem dX11_value_62 : decode cX11_value 62 = .ok (.invokevirtual 309, 3) := by decide +kernel
theorem dX11_value_65 : decode cX11_value 65 = .ok (.ireturn, 1) := by decide +kernel
theorem dX11_value_66 : decode cX11_value 66 = .ok (.aload_n 0, 1) := by decide +kernel
theorem dX11_value_67 : decode cX11_value 67 = .ok (.getfield 265, 3) := by decide +kernel
theorem dX11_value_70 : decode cX11_value 70 = .ok (.ifCond .ne 5, 3) := by decide +kernel
theorem dX11_value_73 : decode cX11_value 73 = .ok (.iconst 1, 1) := by decide +kernel
theorem dX11_value_74 : decode cX11_value 74 = .ok (.ireturn, 1) := by decide +kernel
theorem dX11_value_75 : decode cX11_value 75 = .ok (.aload_n 0, 1) := by decide +kernel
theorem dX11_value_76 : decode cX11_value 76 = .ok (.invokevirtual 321, 3) := by decide +kernel
theorem dX11_value_79 : decode cX11_value 79 = .ok (.istore 4, 2) := by decide +kernel
theorem dX11_value_81 : decode cX11_value 81 = .ok (.iload 4, 2) := by decide +kernel
theorem dX11_value_83 : decode cX11_value 83 = .ok (.iconst (-1), 1) := by decide +kernel
theorem dX11_value_84 : decode cX11_value 84 = .ok (.if_icmp .ne 13, 3) := by decide +kernel
theorem dX11_value_87 : decode cX11_value 87 = .ok (.aload_n 0, 1) := by decide +kernel
theorem dX11_value_88 : decode cX11_value 88 = .ok (.iconst 5, 1) := by decide +kernel
theorem dX11_value_89 : decode cX11_value 89 = .ok (.aload_n 0, 1) := by decide +kernel
theorem dX11_value_90 : decode cX11_value 90 = .ok (.getfield 211, 3) := by decide +kernel
theorem dX11_value_93 : decode cX11_value 93 = .ok (.invokevirtual 258, 3) := by decide +kernel
theorem dX11_value_96 : decode cX11_value 96 = .ok (.ireturn, 1) := by decide +kernel
theorem dX11_value_97 : decode cX11_value 97 = .ok (.aload_n 0, 1) := by decide +kernel
theorem dX11_value_98 : decode cX11_value 98 = .ok (.iload_n 3, 1) := by decide +kernel
theorem dX11_value_99 : decode cX11_value 99 = .ok (.ifCond .eq 20, 3) := by decide +kernel
theorem dX11_value_102 : decode cX11_value 102 = .ok (.aload_n 0, 1) := by decide +kernel
theorem dX11_value_103 : decode cX11_value 103 = .ok (.getfield 45, 3) := by decide +kernel
theorem dX11_value_106 : decode cX11_value 106 = .ok (.iload 4, 2) := by decide +kernel
theorem dX11_value_108 : decode cX11_value 108 = .ok (.iaload, 1) := by decide +kernel
theorem dX11_value_109 : decode cX11_value 109 = .ok (.aload_n 0, 1) := by decide +kernel
theorem dX11_value_110 : decode cX11_value 110 = .ok (.getfield 318, 3) := by decide +kernel
theorem dX11_value_113 : decode cX11_value 113 = .ok (.isub, 1) := by decide +kernel
theorem dX11_value_114 : decode cX11_value 114 = .ok (.iconst 1, 1) := by decide +kernel
theorem dX11_value_115 : decode cX11_value 115 = .ok (.isub, 1) := by decide +kernel
theorem dX11_value_116 : decode cX11_value 116 = .ok (.goto 10, 3) := by decide +kernel
theorem dX11_value_119 : decode cX11_value 119 = .ok (.aload_n 0, 1) := by decide +kernel
theorem dX11_value_120 : decode cX11_value 120 = .ok (.getfield 45, 3) := by decide +kernel
theorem dX11_value_123 : decode cX11_value 123 = .ok (.iload 4, 2) := by decide +kernel
theorem dX11_value_125 : decode cX11_value 125 = .ok (.iaload, 1) := by decide +kernel
theorem dX11_value_126 : decode cX11_value 126 = .ok (.putfield 331, 3) := by decide +kernel
theorem dX11_value_129 : decode cX11_value 129 = .ok (.iload_n 3, 1) := by decide +kernel
theorem dX11_value_130 : decode cX11_value 130 = .ok (.ifCond .eq 32, 3) := by decide +kernel
theorem dX11_value_133 : decode cX11_value 133 = .ok (.aload_n 0, 1) := by decide +kernel
theorem dX11_value_134 : decode cX11_value 134 = .ok (.getfield 331, 3) := by decide +kernel
theorem dX11_value_137 : decode cX11_value 137 = .ok (.iload_n 1, 1) := by decide +kernel
theorem dX11_value_138 : decode cX11_value 138 = .ok (.if_icmp .lt 11, 3) := by decide +kernel
theorem dX11_value_141 : decode cX11_value 141 = .ok (.aload_n 0, 1) := by decide +kernel
theorem dX11_value_142 : decode cX11_value 142 = .ok (.getfield 331, 3) := by decide +kernel
theorem dX11_value_145 : decode cX11_value 145 = .ok (.iload_n 2, 1) := by decide +kernel
theorem dX11_value_146 : decode cX11_value 146 = .ok (.if_icmp .le 16, 3) := by decide +kernel
theorem dX11_value_149 : decode cX11_value 149 = .ok (.aload_n 0, 1) := by decide +kernel
theorem dX11_value_150 : decode cX11_value 150 = .ok (.bipush 6, 2) := by decide +kernel
theorem dX11_value_152 : decode cX11_value 152 = .ok (.aload_n 0, 1) := by decide +kernel
theorem dX11_value_153 : decode cX11_value 153 = .ok (.getfield 211, 3) := by decide +kernel
theorem dX11_value_156 : decode cX11_value 156 = .ok (.invokevirtual 258, 3) := by decide +kernel
theorem dX11_value_159 : decode cX11_value 159 = .ok (.ifCond .eq 7, 3) := by decide +kernel
theorem dX11_value_162 : decode cX11_value 162 = .ok (.iconst 1, 1) := by decide +kernel
theorem dX11_value_163 : decode cX11_value 163 = .ok (.goto 4, 3) := by decide +kernel
theorem dX11_value_166 : decode cX11_value 166 = .ok (.iconst 0, 1) := by decide +kernel
theorem dX11_value_167 : decode cX11_value 167 = .ok (.ireturn, 1) := by decide +kernel
theorem dX11_taken_0 : decode cX11_taken 0 = .ok (.aload_n 0, 1) := by decide +kernel
theorem dX11_taken_1 : decode cX11_taken 1 = .ok (.invokevirtual 297, 3) := by decide +kernel
theorem dX11_taken_4 : decode cX11_taken 4 = .ok (.aload_n 0, 1) := by decide +kernel
theorem dX11_taken_5 : decode cX11_taken 5 = .ok (.invokevirtual 249, 3) := by decide +kernel
theorem dX11_taken_8 : decode cX11_taken 8 = .ok (.ifCond .ne 8, 3) := by decide +kernel
theorem dX11_taken_11 : decode cX11_taken 11 = .ok (.aload_n 0, 1) := by decide +kernel
theorem dX11_taken_12 : decode cX11_taken 12 = .ok (.invokevirtual 309, 3) := by decide +kernel
theorem dX11_taken_15 : decode cX11_taken 15 = .ok (.ireturn, 1) := by decide +kernel
theorem dX11_taken_16 : decode cX11_taken 16 = .ok (.aload_n 0, 1) := by decide +kernel
theorem dX11_taken_17 : decode cX11_taken 17 = .ok (.iload_n 2, 1) := by decide +kernel
theorem dX11_taken_18 : decode cX11_taken 18 = .ok (.aload_n 0, 1) := by decide +kernel
theorem dX11_taken_19 : decode cX11_taken 19 = .ok (.aload_n 0, 1) := by decide +kernel
theorem dX11_taken_20 : decode cX11_taken 20 = .ok (.getfield 211, 3) := by decide +kernel
theorem dX11_taken_23 : decode cX11_taken 23 = .ok (.iconst 1, 1) := by decide +kernel
theorem dX11_taken_24 : decode cX11_taken 24 = .ok (.iadd, 1) := by decide +kernel
theorem dX11_taken_25 : decode cX11_taken 25 = .ok (.invokevirtual 205, 3) := by decide +kernel
theorem dX11_taken_28 : decode cX11_taken 28 = .ok (.bipush 48, 2) := by decide +kernel
theorem dX11_taken_30 : decode cX11_taken 30 = .ok (.isub, 1) := by decide +kernel
theorem dX11_taken_31 : decode cX11_taken 31 = .ok (.iload_n 1, 1) := by decide +kernel
theorem dX11_taken_32 : decode cX11_taken 32 = .ok (.ishl, 1) := by decide +kernel
theorem dX11_taken_33 : decode cX11_taken 33 = .ok (.ior, 1) := by decide +kernel
theorem dX11_taken_34 : decode cX11_taken 34 = .ok (.putfield 331, 3) := by decide +kernel
theorem dX11_taken_37 : decode cX11_taken 37 = .ok (.iconst 1, 1) := by decide +kernel
theorem dX11_taken_38 : decode cX11_taken 38 = .ok (.ireturn, 1) := by decide +kernel
theorem dX11_small_0 : decode cX11_small 0 = .ok (.aload_n 0, 1) := by decide +kernel
theorem dX11_small_1 : decode cX11_small 1 = .ok (.invokevirtual 297, 3) := by decide +kernel
theorem dX11_small_4 : decode cX11_small 4 = .ok (.aload_n 0, 1) := by decide +kernel
theorem dX11_small_5 : decode cX11_small 5 = .ok (.invokevirtual 246, 3) := by decide +kernel
theorem dX11_small_8 : decode cX11_small 8 = .ok (.ifCond .ne 8, 3) := by decide +kernel
theorem dX11_small_11 : decode cX11_small 11 = .ok (.aload_n 0, 1) := by decide +kernel
theorem dX11_small_12 : decode cX11_small 12 = .ok (.invokevirtual 309, 3) := by decide +kernel
theorem dX11_small_15 : decode cX11_small 15 = .ok (.ireturn, 1) := by decide +kernel
theorem dX11_small_16 : decode cX11_small 16 = .ok (.aload_n 0, 1) := by decide +kernel
theorem dX11_small_17 : decode cX11_small 17 = .ok (.getfield 232, 3) := by decide +kernel
theorem dX11_small_20 : decode cX11_small 20 = .ok (.iload_n 1, 1) := by decide +kernel
theorem dX11_small_21 : decode cX11_small 21 = .ok (.if_icmp .lt 11, 3) := by decide +kernel
theorem dX11_small_24 : decode cX11_small 24 = .ok (.aload_n 0, 1) := by decide +kernel
theorem dX11_small_25 : decode cX11_small 25 = .ok (.getfield 232, 3) := by decide +kernel
theorem dX11_small_28 : decode cX11_small 28 = .ok (.iload_n 2, 1) := by decide +kernel
theorem dX11_small_29 : decode cX11_small 29 = .ok (.if_icmp .le 15, 3) := by decide +kernel
theorem dX11_small_32 : decode cX11_small 32 = .ok (.aload_n 0, 1) := by decide +kernel
theorem dX11_small_33 : decode cX11_small 33 = .ok (.iconst 2, 1) := by decide +kernel
theorem dX11_small_34 : decode cX11_small 34 = .ok (.aload_n 0, 1) := by decide +kernel
theorem dX11_small_35 : decode cX11_small 35 = .ok (.getfield 211, 3) := by decide +kernel
theorem dX11_small_38 : decode cX11_small 38 = .ok (.invokevirtual 258, 3) := by decide +kernel
theorem dX11_small_41 : decode cX11_small 41 = .ok (.ifCond .eq 7, 3) := by decide +kernel
theorem dX11_small_44 : decode cX11_small 44 = .ok (.iconst 1, 1) := by decide +kernel
theorem dX11_small_45 : decode cX11_small 45 = .ok (.goto 4, 3) := by decide +kernel
theorem dX11_small_48 : decode cX11_small 48 = .ok (.iconst 0, 1) := by decide +kernel
theorem dX11_small_49 : decode cX11_small 49 = .ok (.ireturn, 1) := by decide +kernel
theorem dX11_where_0 : decode cX11_where 0 = .ok (.aload_n 0, 1) := by decide +kernel
theorem dX11_where_1 : decode cX11_where 1 = .ok (.invokevirtual 297, 3) := by decide +kernel
theorem dX11_where_4 : decode cX11_where 4 = .ok (.aload_n 0, 1) := by decide +kernel
theorem dX11_where_5 : decode cX11_where 5 = .ok (.iconst 1, 1) := by decide +kernel
theorem dX11_where_6 : decode cX11_where 6 = .ok (.iload_n 1, 1) := by decide +kernel
theorem dX11_where_7 : decode cX11_where 7 = .ok (.iconst 1, 1) := by decide +kernel
theorem dX11_where_8 : decode cX11_where 8 = .ok (.isub, 1) := by decide +kernel
theorem dX11_where_9 : decode cX11_where 9 = .ok (.ishl, 1) := by decide +kernel
theorem dX11_where_10 : decode cX11_where 10 = .ok (.ineg, 1) := by decide +kernel
theorem dX11_where_11 : decode cX11_where 11 = .ok (.iconst 1, 1) := by decide +kernel
theorem dX11_where_12 : decode cX11_where 12 = .ok (.iload_n 1, 1) := by decide +kernel
theorem dX11_where_13 : decode cX11_where 13 = .ok (.iconst 1, 1) := by decide +kernel
theorem dX11_where_14 : decode cX11_where 14 = .ok (.isub, 1) := by decide +kernel
theorem dX11_where_15 : decode cX11_where 15 = .ok (.ishl, 1) := by decide +kernel
theorem dX11_where_16 : decode cX11_where 16 = .ok (.iconst 1, 1) := by decide +kernel
theorem dX11_where_17 : decode cX11_where 17 = .ok (.isub, 1) := by decide +kernel
theorem dX11_where_18 : decode cX11_where 18 = .ok (.iconst 1, 1) := by decide +kernel
theorem dX11_where_19 : decode cX11_where 19 = .ok (.invokevirtual 327, 3) := by decide +kernel
theorem dX11_where_22 : decode cX11_where 22 = .ok (.ifCond .ne 5, 3) := by decide +kernel
theorem dX11_where_25 : decode cX11_where 25 = .ok (.iconst 0, 1) := by decide +kernel
theorem dX11_where_26 : decode cX11_where 26 = .ok (.ireturn, 1) := by decide +kernel
theorem dX11_where_27 : decode cX11_where 27 = .ok (.aload_n 0, 1) := by decide +kernel
theorem dX11_where_28 : decode cX11_where 28 = .ok (.iload_n 2, 1) := by decide +kernel
theorem dX11_where_29 : decode cX11_where 29 = .ok (.aload_n 0, 1) := by decide +kernel
theorem dX11_where_30 : decode cX11_where 30 = .ok (.getfield 331, 3) := by decide +kernel
theorem dX11_where_33 : decode cX11_where 33 = .ok (.iconst 1, 1) := by decide +kernel
theorem dX11_where_34 : decode cX11_where 34 = .ok (.iload_n 1, 1) := by decide +kernel
theorem dX11_where_35 : decode cX11_where 35 = .ok (.ishl, 1) := by decide +kernel
theorem dX11_where_36 : decode cX11_where 36 = .ok (.iconst 1, 1) := by decide +kernel
theorem dX11_where_37 : decode cX11_where 37 = .ok (.isub, 1) := by decide +kernel
theorem dX11_where_38 : decode cX11_where 38 = .ok (.iand, 1) := by decide +kernel
theorem dX11_where_39 : decode cX11_where 39 = .ok (.ior, 1) := by decide +kernel
theorem dX11_where_40 : decode cX11_where 40 = .ok (.putfield 331, 3) := by decide +kernel
theorem dX11_where_43 : decode cX11_where 43 = .ok (.iconst 1, 1) := by decide +kernel
theorem dX11_where_44 : decode cX11_where 44 = .ok (.ireturn, 1) := by decide +kernel
theorem dX11_named_0 : decode cX11_named 0 = .ok (.aload_n 0, 1) := by decide +kernel
theorem dX11_named_1 : decode cX11_named 1 = .ok (.iconst 1, 1) := by decide +kernel
theorem dX11_named_2 : decode cX11_named 2 = .ok (.iload_n 2, 1) := by decide +kernel
theorem dX11_named_3 : decode cX11_named 3 = .ok (.invokevirtual 324, 3) := by decide +kernel
theorem dX11_named_6 : decode cX11_named 6 = .ok (.ifCond .eq 11, 3) := by decide +kernel
theorem dX11_named_9 : decode cX11_named 9 = .ok (.aload_n 0, 1) := by decide +kernel
theorem dX11_named_10 : decode cX11_named 10 = .ok (.iload_n 1, 1) := by decide +kernel
theorem dX11_named_11 : decode cX11_named 11 = .ok (.invokevirtual 337, 3) := by decide +kernel
theorem dX11_named_14 : decode cX11_named 14 = .ok (.ifCond .ne 5, 3) := by decide +kernel
theorem dX11_named_17 : decode cX11_named 17 = .ok (.iconst 0, 1) := by decide +kernel
theorem dX11_named_18 : decode cX11_named 18 = .ok (.ireturn, 1) := by decide +kernel
theorem dX11_named_19 : decode cX11_named 19 = .ok (.aload_n 0, 1) := by decide +kernel
theorem dX11_named_20 : decode cX11_named 20 = .ok (.aload_n 0, 1) := by decide +kernel
theorem dX11_named_21 : decode cX11_named 21 = .ok (.getfield 331, 3) := by decide +kernel
theorem dX11_named_24 : decode cX11_named 24 = .ok (.invokevirtual 334, 3) := by decide +kernel
theorem dX11_named_27 : decode cX11_named 27 = .ok (.iconst 1, 1) := by decide +kernel
theorem dX11_named_28 : decode cX11_named 28 = .ok (.ireturn, 1) := by decide +kernel
theorem dX11_instruction_0 : decode cX11_instruction 0 = .ok (.iload_n 1, 1) := by decide +kernel
theorem dX11_instruction_1 : decode cX11_instruction 1 = .ok (.bipush 22, 2) := by decide +kernel
theorem dX11_instruction_3 : decode cX11_instruction 3 = .ok (.if_icmp .lt 28, 3) := by decide +kernel
theorem dX11_instruction_6 : decode cX11_instruction 6 = .ok (.aload_n 0, 1) := by decide +kernel
theorem dX11_instruction_7 : decode cX11_instruction 7 = .ok (.bipush 9, 2) := by decide +kernel
theorem dX11_instruction_9 : decode cX11_instruction 9 = .ok (.iload_n 1, 1) := by decide +kernel
theorem dX11_instruction_10 : decode cX11_instruction 10 = .ok (.bipush 22, 2) := by decide +kernel
theorem dX11_instruction_12 : decode cX11_instruction 12 = .ok (.if_icmp .ne 8, 3) := by decide +kernel
theorem dX11_instruction_15 : decode cX11_instruction 15 = .ok (.bipush 7, 2) := by decide +kernel
theorem dX11_instruction_17 : decode cX11_instruction 17 = .ok (.goto 7, 3) := by decide +kernel
theorem dX11_instruction_20 : decode cX11_instruction 20 = .ok (.iload_n 1, 1) := by decide +kernel
theorem dX11_instruction_21 : decode cX11_instruction 21 = .ok (.bipush 22, 2) := by decide +kernel
theorem dX11_instruction_23 : decode cX11_instruction 23 = .ok (.isub, 1) := by decide +kernel
theorem dX11_instruction_24 : decode cX11_instruction 24 = .ok (.bipush 9, 2) := by decide +kernel
theorem dX11_instruction_26 : decode cX11_instruction 26 = .ok (.ishl, 1) := by decide +kernel
theorem dX11_instruction_27 : decode cX11_instruction 27 = .ok (.invokevirtual 340, 3) := by decide +kernel
theorem dX11_instruction_30 : decode cX11_instruction 30 = .ok (.ireturn, 1) := by decide +kernel
theorem dX11_instruction_31 : decode cX11_instruction 31 = .ok (.iload_n 1, 1) := by decide +kernel
theorem dX11_instruction_32 : decode cX11_instruction 32 = .ok (.bipush 16, 2) := by decide +kernel
theorem dX11_instruction_34 : decode cX11_instruction 34 = .ok (.if_icmp .lt 17, 3) := by decide +kernel
theorem dX11_instruction_37 : decode cX11_instruction 37 = .ok (.aload_n 0, 1) := by decide +kernel
theorem dX11_instruction_38 : decode cX11_instruction 38 = .ok (.ldc_w 343, 3) := by decide +kernel
theorem dX11_instruction_41 : decode cX11_instruction 41 = .ok (.iload_n 1, 1) := by decide +kernel
theorem dX11_instruction_42 : decode cX11_instruction 42 = .ok (.iadd, 1) := by decide +kernel
theorem dX11_instruction_43 : decode cX11_instruction 43 = .ok (.bipush 16, 2) := by decide +kernel
theorem dX11_instruction_45 : decode cX11_instruction 45 = .ok (.isub, 1) := by decide +kernel
theorem dX11_instruction_46 : decode cX11_instruction 46 = .ok (.putfield 331, 3) := by decide +kernel
theorem dX11_instruction_49 : decode cX11_instruction 49 = .ok (.iconst 1, 1) := by decide +kernel
theorem dX11_instruction_50 : decode cX11_instruction 50 = .ok (.ireturn, 1) := by decide +kernel
theorem dX11_instruction_51 : decode cX11_instruction 51 = .ok (.iload_n 1, 1) := by decide +kernel
theorem dX11_instruction_52 : decode cX11_instruction 52 = .ok (.tableswitch 347 0 13 #[72, 80, 88, 119, 150, 181, 212, 243, 274, 282, 290, 310, 300, 320], 72) := by decide +kernel
theorem dX11_instruction_124 : decode cX11_instruction 124 = .ok (.aload_n 0, 1) := by decide +kernel
theorem dX11_instruction_125 : decode cX11_instruction 125 = .ok (.sipush 4096, 3) := by decide +kernel
theorem dX11_instruction_128 : decode cX11_instruction 128 = .ok (.invokevirtual 344, 3) := by decide +kernel
theorem dX11_instruction_131 : decode cX11_instruction 131 = .ok (.ireturn, 1) := by decide +kernel
theorem dX11_instruction_132 : decode cX11_instruction 132 = .ok (.aload_n 0, 1) := by decide +kernel
theorem dX11_instruction_133 : decode cX11_instruction 133 = .ok (.sipush 20480, 3) := by decide +kernel
theorem dX11_instruction_136 : decode cX11_instruction 136 = .ok (.invokevirtual 344, 3) := by decide +kernel
theorem dX11_instruction_139 : decode cX11_instruction 139 = .ok (.ireturn, 1) := by decide +kernel
theorem dX11_instruction_140 : decode cX11_instruction 140 = .ok (.aload_n 0, 1) := by decide +kernel
theorem dX11_instruction_141 : decode cX11_instruction 141 = .ok (.bipush 9, 2) := by decide +kernel
theorem dX11_instruction_143 : decode cX11_instruction 143 = .ok (.ldc_w 347, 3) := by decide +kernel
theorem dX11_instruction_146 : decode cX11_instruction 146 = .ok (.invokevirtual 348, 3) := by decide +kernel
theorem dX11_instruction_149 : decode cX11_instruction 149 = .ok (.ifCond .eq 20, 3) := by decide +kernel
theorem dX11_instruction_152 : decode cX11_instruction 152 = .ok (.aload_n 0, 1) := by decide +kernel
theorem dX11_instruction_153 : decode cX11_instruction 153 = .ok (.bipush 6, 2) := by decide +kernel
theorem dX11_instruction_155 : decode cX11_instruction 155 = .ok (.aload_n 0, 1) := by decide +kernel
theorem dX11_instruction_156 : decode cX11_instruction 156 = .ok (.getfield 331, 3) := by decide +kernel
theorem dX11_instruction_159 : decode cX11_instruction 159 = .ok (.invokevirtual 348, 3) := by decide +kernel
theorem dX11_instruction_162 : decode cX11_instruction 162 = .ok (.ifCond .eq 7, 3) := by decide +kernel
theorem dX11_instruction_165 : decode cX11_instruction 165 = .ok (.iconst 1, 1) := by decide +kernel
theorem dX11_instruction_166 : decode cX11_instruction 166 = .ok (.goto 4, 3) := by decide +kernel
theorem dX11_instruction_169 : decode cX11_instruction 169 = .ok (.iconst 0, 1) := by decide +kernel
theorem dX11_instruction_170 : decode cX11_instruction 170 = .ok (.ireturn, 1) := by decide +kernel
theorem dX11_instruction_171 : decode cX11_instruction 171 = .ok (.aload_n 0, 1) := by decide +kernel
theorem dX11_instruction_172 : decode cX11_instruction 172 = .ok (.bipush 9, 2) := by decide +kernel
theorem dX11_instruction_174 : decode cX11_instruction 174 = .ok (.sipush 8192, 3) := by decide +kernel
theorem dX11_instruction_177 : decode cX11_instruction 177 = .ok (.invokevirtual 348, 3) := by decide +kernel
theorem dX11_instruction_180 : decode cX11_instruction 180 = .ok (.ifCond .eq 20, 3) := by decide +kernel
theorem dX11_instruction_183 : decode cX11_instruction 183 = .ok (.aload_n 0, 1) := by decide +kernel
theorem dX11_instruction_184 : decode cX11_instruction 184 = .ok (.bipush 9, 2) := by decide +kernel
theorem dX11_instruction_186 : decode cX11_instruction 186 = .ok (.aload_n 0, 1) := by decide +kernel
theorem dX11_instruction_187 : decode cX11_instruction 187 = .ok (.getfield 331, 3) := by decide +kernel
theorem dX11_instruction_190 : decode cX11_instruction 190 = .ok (.invokevirtual 340, 3) := by decide +kernel
theorem dX11_instruction_193 : decode cX11_instruction 193 = .ok (.ifCond .eq 7, 3) := by decide +kernel
theorem dX11_instruction_196 : decode cX11_instruction 196 = .ok (.iconst 1, 1) := by decide +kernel
theorem dX11_instruction_197 : decode cX11_instruction 197 = .ok (.goto 4, 3) := by decide +kernel
theorem dX11_instruction_200 : decode cX11_instruction 200 = .ok (.iconst 0, 1) := by decide +kernel
theorem dX11_instruction_201 : decode cX11_instruction 201 = .ok (.ireturn, 1) := by decide +kernel
theorem dX11_instruction_202 : decode cX11_instruction 202 = .ok (.aload_n 0, 1) := by decide +kernel
theorem dX11_instruction_203 : decode cX11_instruction 203 = .ok (.bipush 9, 2) := by decide +kernel
theorem dX11_instruction_205 : decode cX11_instruction 205 = .ok (.ldc_w 351, 3) := by decide +kernel
theorem dX11_instruction_208 : decode cX11_instruction 208 = .ok (.invokevirtual 348, 3) := by decide +kernel
theorem dX11_instruction_211 : decode cX11_instruction 211 = .ok (.ifCond .eq 20, 3) := by decide +kernel
theorem dX11_instruction_214 : decode cX11_instruction 214 = .ok (.aload_n 0, 1) := by decide +kernel
theorem dX11_instruction_215 : decode cX11_instruction 215 = .ok (.bipush 9, 2) := by decide +kernel
theorem dX11_instruction_217 : decode cX11_instruction 217 = .ok (.aload_n 0, 1) := by decide +kernel
theorem dX11_instruction_218 : decode cX11_instruction 218 = .ok (.getfield 331, 3) := by decide +kernel
theorem dX11_instruction_221 : decode cX11_instruction 221 = .ok (.invokevirtual 340, 3) := by decide +kernel
theorem dX11_instruction_224 : decode cX11_instruction 224 = .ok (.ifCond .eq 7, 3) := by decide +kernel
theorem dX11_instruction_227 : decode cX11_instruction 227 = .ok (.iconst 1, 1) := by decide +kernel
theorem dX11_instruction_228 : decode cX11_instruction 228 = .ok (.goto 4, 3) := by decide +kernel
theorem dX11_instruction_231 : decode cX11_instruction 231 = .ok (.iconst 0, 1) := by decide +kernel
theorem dX11_instruction_232 : decode cX11_instruction 232 = .ok (.ireturn, 1) := by decide +kernel
theorem dX11_instruction_233 : decode cX11_instruction 233 = .ok (.aload_n 0, 1) := by decide +kernel
theorem dX11_instruction_234 : decode cX11_instruction 234 = .ok (.bipush 9, 2) := by decide +kernel
theorem dX11_instruction_236 : decode cX11_instruction 236 = .ok (.ldc_w 352, 3) := by decide +kernel
theorem dX11_instruction_239 : decode cX11_instruction 239 = .ok (.invokevirtual 348, 3) := by decide +kernel
theorem dX11_instruction_242 : decode cX11_instruction 242 = .ok (.ifCond .eq 20, 3) := by decide +kernel
theorem dX11_instruction_245 : decode cX11_instruction 245 = .ok (.aload_n 0, 1) := by decide +kernel
theorem dX11_instruction_246 : decode cX11_instruction 246 = .ok (.bipush 9, 2) := by decide +kernel
theorem dX11_instruction_248 : decode cX11_instruction 248 = .ok (.aload_n 0, 1) := by decide +kernel
theorem dX11_instruction_249 : decode cX11_instruction 249 = .ok (.getfield 331, 3) := by decide +kernel
theorem dX11_instruction_252 : decode cX11_instruction 252 = .ok (.invokevirtual 340, 3) := by decide +kernel
theorem dX11_instruction_255 : decode cX11_instruction 255 = .ok (.ifCond .eq 7, 3) := by decide +kernel
theorem dX11_instruction_258 : decode cX11_instruction 258 = .ok (.iconst 1, 1) := by decide +kernel
theorem dX11_instruction_259 : decode cX11_instruction 259 = .ok (.goto 4, 3) := by decide +kernel
theorem dX11_instruction_262 : decode cX11_instruction 262 = .ok (.iconst 0, 1) := by decide +kernel
theorem dX11_instruction_263 : decode cX11_instruction 263 = .ok (.ireturn, 1) := by decide +kernel
theorem dX11_instruction_264 : decode cX11_instruction 264 = .ok (.aload_n 0, 1) := by decide +kernel
theorem dX11_instruction_265 : decode cX11_instruction 265 = .ok (.bipush 9, 2) := by decide +kernel
theorem dX11_instruction_267 : decode cX11_instruction 267 = .ok (.sipush 12288, 3) := by decide +kernel
theorem dX11_instruction_270 : decode cX11_instruction 270 = .ok (.invokevirtual 348, 3) := by decide +kernel
theorem dX11_instruction_273 : decode cX11_instruction 273 = .ok (.ifCond .eq 20, 3) := by decide +kernel
theorem dX11_instruction_276 : decode cX11_instruction 276 = .ok (.aload_n 0, 1) := by decide +kernel
theorem dX11_instruction_277 : decode cX11_instruction 277 = .ok (.bipush 9, 2) := by decide +kernel
theorem dX11_instruction_279 : decode cX11_instruction 279 = .ok (.aload_n 0, 1) := by decide +kernel
theorem dX11_instruction_280 : decode cX11_instruction 280 = .ok (.getfield 331, 3) := by decide +kernel
theorem dX11_instruction_283 : decode cX11_instruction 283 = .ok (.invokevirtual 340, 3) := by decide +kernel
theorem dX11_instruction_286 : decode cX11_instruction 286 = .ok (.ifCond .eq 7, 3) := by decide +kernel
theorem dX11_instruction_289 : decode cX11_instruction 289 = .ok (.iconst 1, 1) := by decide +kernel
theorem dX11_instruction_290 : decode cX11_instruction 290 = .ok (.goto 4, 3) := by decide +kernel
theorem dX11_instruction_293 : decode cX11_instruction 293 = .ok (.iconst 0, 1) := by decide +kernel
theorem dX11_instruction_294 : decode cX11_instruction 294 = .ok (.ireturn, 1) := by decide +kernel
theorem dX11_instruction_295 : decode cX11_instruction 295 = .ok (.aload_n 0, 1) := by decide +kernel
theorem dX11_instruction_296 : decode cX11_instruction 296 = .ok (.bipush 9, 2) := by decide +kernel
theorem dX11_instruction_298 : decode cX11_instruction 298 = .ok (.ldc_w 353, 3) := by decide +kernel
theorem dX11_instruction_301 : decode cX11_instruction 301 = .ok (.invokevirtual 348, 3) := by decide +kernel
theorem dX11_instruction_304 : decode cX11_instruction 304 = .ok (.ifCond .eq 20, 3) := by decide +kernel
theorem dX11_instruction_307 : decode cX11_instruction 307 = .ok (.aload_n 0, 1) := by decide +kernel
theorem dX11_instruction_308 : decode cX11_instruction 308 = .ok (.bipush 9, 2) := by decide +kernel
theorem dX11_instruction_310 : decode cX11_instruction 310 = .ok (.aload_n 0, 1) := by decide +kernel
theorem dX11_instruction_311 : decode cX11_instruction 311 = .ok (.getfield 331, 3) := by decide +kernel
theorem dX11_instruction_314 : decode cX11_instruction 314 = .ok (.invokevirtual 340, 3) := by decide +kernel
theorem dX11_instruction_317 : decode cX11_instruction 317 = .ok (.ifCond .eq 7, 3) := by decide +kernel
theorem dX11_instruction_320 : decode cX11_instruction 320 = .ok (.iconst 1, 1) := by decide +kernel
theorem dX11_instruction_321 : decode cX11_instruction 321 = .ok (.goto 4, 3) := by decide +kernel
theorem dX11_instruction_324 : decode cX11_instruction 324 = .ok (.iconst 0, 1) := by decide +kernel
theorem dX11_instruction_325 : decode cX11_instruction 325 = .ok (.ireturn, 1) := by decide +kernel
theorem dX11_instruction_326 : decode cX11_instruction 326 = .ok (.aload_n 0, 1) := by decide +kernel
theorem dX11_instruction_327 : decode cX11_instruction 327 = .ok (.sipush 24576, 3) := by decide +kernel
theorem dX11_instruction_330 : decode cX11_instruction 330 = .ok (.invokevirtual 354, 3) := by decide +kernel
theorem dX11_instruction_333 : decode cX11_instruction 333 = .ok (.ireturn, 1) := by decide +kernel
theorem dX11_instruction_334 : decode cX11_instruction 334 = .ok (.aload_n 0, 1) := by decide +kernel
theorem dX11_instruction_335 : decode cX11_instruction 335 = .ok (.sipush 28672, 3) := by decide +kernel
theorem dX11_instruction_338 : decode cX11_instruction 338 = .ok (.invokevirtual 354, 3) := by decide +kernel
theorem dX11_instruction_341 : decode cX11_instruction 341 = .ok (.ireturn, 1) := by decide +kernel
theorem dX11_instruction_342 : decode cX11_instruction 342 = .ok (.aload_n 0, 1) := by decide +kernel
theorem dX11_instruction_343 : decode cX11_instruction 343 = .ok (.bipush 6, 2) := by decide +kernel
theorem dX11_instruction_345 : decode cX11_instruction 345 = .ok (.ldc_w 357, 3) := by decide +kernel
theorem dX11_instruction_348 : decode cX11_instruction 348 = .ok (.invokevirtual 348, 3) := by decide +kernel
theorem dX11_instruction_351 : decode cX11_instruction 351 = .ok (.ireturn, 1) := by decide +kernel
theorem dX11_instruction_352 : decode cX11_instruction 352 = .ok (.aload_n 0, 1) := by decide +kernel
theorem dX11_instruction_353 : decode cX11_instruction 353 = .ok (.bipush 6, 2) := by decide +kernel
theorem dX11_instruction_355 : decode cX11_instruction 355 = .ok (.sipush 16384, 3) := by decide +kernel
theorem dX11_instruction_358 : decode cX11_instruction 358 = .ok (.invokevirtual 348, 3) := by decide +kernel
theorem dX11_instruction_361 : decode cX11_instruction 361 = .ok (.ireturn, 1) := by decide +kernel
theorem dX11_instruction_362 : decode cX11_instruction 362 = .ok (.aload_n 0, 1) := by decide +kernel
theorem dX11_instruction_363 : decode cX11_instruction 363 = .ok (.bipush 11, 2) := by decide +kernel
theorem dX11_instruction_365 : decode cX11_instruction 365 = .ok (.sipush 18432, 3) := by decide +kernel
theorem dX11_instruction_368 : decode cX11_instruction 368 = .ok (.invokevirtual 340, 3) := by decide +kernel
theorem dX11_instruction_371 : decode cX11_instruction 371 = .ok (.ireturn, 1) := by decide +kernel
theorem dX11_instruction_372 : decode cX11_instruction 372 = .ok (.aload_n 0, 1) := by decide +kernel
theorem dX11_instruction_373 : decode cX11_instruction 373 = .ok (.iconst 0, 1) := by decide +kernel
theorem dX11_instruction_374 : decode cX11_instruction 374 = .ok (.sipush 255, 3) := by decide +kernel
theorem dX11_instruction_377 : decode cX11_instruction 377 = .ok (.invokevirtual 358, 3) := by decide +kernel
theorem dX11_instruction_380 : decode cX11_instruction 380 = .ok (.ifCond .ne 5, 3) := by decide +kernel
theorem dX11_instruction_383 : decode cX11_instruction 383 = .ok (.iconst 0, 1) := by decide +kernel
theorem dX11_instruction_384 : decode cX11_instruction 384 = .ok (.ireturn, 1) := by decide +kernel
theorem dX11_instruction_385 : decode cX11_instruction 385 = .ok (.aload_n 0, 1) := by decide +kernel
theorem dX11_instruction_386 : decode cX11_instruction 386 = .ok (.ldc_w 361, 3) := by decide +kernel
theorem dX11_instruction_389 : decode cX11_instruction 389 = .ok (.aload_n 0, 1) := by decide +kernel
theorem dX11_instruction_390 : decode cX11_instruction 390 = .ok (.getfield 232, 3) := by decide +kernel
theorem dX11_instruction_393 : decode cX11_instruction 393 = .ok (.iadd, 1) := by decide +kernel
theorem dX11_instruction_394 : decode cX11_instruction 394 = .ok (.putfield 331, 3) := by decide +kernel
theorem dX11_instruction_397 : decode cX11_instruction 397 = .ok (.iconst 1, 1) := by decide +kernel
theorem dX11_instruction_398 : decode cX11_instruction 398 = .ok (.ireturn, 1) := by decide +kernel
theorem dX11_instruction_399 : decode cX11_instruction 399 = .ok (.aload_n 0, 1) := by decide +kernel
theorem dX11_instruction_400 : decode cX11_instruction 400 = .ok (.iload_n 1, 1) := by decide +kernel
theorem dX11_instruction_401 : decode cX11_instruction 401 = .ok (.bipush 14, 2) := by decide +kernel
theorem dX11_instruction_403 : decode cX11_instruction 403 = .ok (.if_icmp .ne 9, 3) := by decide +kernel
theorem dX11_instruction_406 : decode cX11_instruction 406 = .ok (.ldc_w 362, 3) := by decide +kernel
theorem dX11_instruction_409 : decode cX11_instruction 409 = .ok (.goto 5, 3) := by decide +kernel
theorem dX11_instruction_412 : decode cX11_instruction 412 = .ok (.ldc 88, 2) := by decide +kernel
theorem dX11_instruction_414 : decode cX11_instruction 414 = .ok (.putfield 331, 3) := by decide +kernel
theorem dX11_instruction_417 : decode cX11_instruction 417 = .ok (.iconst 1, 1) := by decide +kernel
theorem dX11_instruction_418 : decode cX11_instruction 418 = .ok (.ireturn, 1) := by decide +kernel
theorem dX11_three_0 : decode cX11_three 0 = .ok (.aload_n 0, 1) := by decide +kernel
theorem dX11_three_1 : decode cX11_three 1 = .ok (.bipush 9, 2) := by decide +kernel
theorem dX11_three_3 : decode cX11_three 3 = .ok (.iload_n 1, 1) := by decide +kernel
theorem dX11_three_4 : decode cX11_three 4 = .ok (.invokevirtual 348, 3) := by decide +kernel
theorem dX11_three_7 : decode cX11_three 7 = .ok (.ifCond .eq 16, 3) := by decide +kernel
theorem dX11_three_10 : decode cX11_three 10 = .ok (.aload_n 0, 1) := by decide +kernel
theorem dX11_three_11 : decode cX11_three 11 = .ok (.bipush 6, 2) := by decide +kernel
theorem dX11_three_13 : decode cX11_three 13 = .ok (.aload_n 0, 1) := by decide +kernel
theorem dX11_three_14 : decode cX11_three 14 = .ok (.getfield 331, 3) := by decide +kernel
theorem dX11_three_17 : decode cX11_three 17 = .ok (.invokevirtual 348, 3) := by decide +kernel
theorem dX11_three_20 : decode cX11_three 20 = .ok (.ifCond .ne 5, 3) := by decide +kernel
theorem dX11_three_23 : decode cX11_three 23 = .ok (.iconst 0, 1) := by decide +kernel
theorem dX11_three_24 : decode cX11_three 24 = .ok (.ireturn, 1) := by decide +kernel
theorem dX11_three_25 : decode cX11_three 25 = .ok (.aload_n 0, 1) := by decide +kernel
theorem dX11_three_26 : decode cX11_three 26 = .ok (.invokevirtual 297, 3) := by decide +kernel
theorem dX11_three_29 : decode cX11_three 29 = .ok (.aload_n 0, 1) := by decide +kernel
theorem dX11_three_30 : decode cX11_three 30 = .ok (.invokevirtual 249, 3) := by decide +kernel
theorem dX11_three_33 : decode cX11_three 33 = .ok (.ifCond .eq 27, 3) := by decide +kernel
theorem dX11_three_36 : decode cX11_three 36 = .ok (.aload_n 0, 1) := by decide +kernel
theorem dX11_three_37 : decode cX11_three 37 = .ok (.dup, 1) := by decide +kernel
theorem dX11_three_38 : decode cX11_three 38 = .ok (.getfield 331, 3) := by decide +kernel
theorem dX11_three_41 : decode cX11_three 41 = .ok (.aload_n 0, 1) := by decide +kernel
theorem dX11_three_42 : decode cX11_three 42 = .ok (.aload_n 0, 1) := by decide +kernel
theorem dX11_three_43 : decode cX11_three 43 = .ok (.getfield 211, 3) := by decide +kernel
theorem dX11_three_46 : decode cX11_three 46 = .ok (.iconst 1, 1) := by decide +kernel
theorem dX11_three_47 : decode cX11_three 47 = .ok (.iadd, 1) := by decide +kernel
theorem dX11_three_48 : decode cX11_three 48 = .ok (.invokevirtual 205, 3) := by decide +kernel
theorem dX11_three_51 : decode cX11_three 51 = .ok (.bipush 48, 2) := by decide +kernel
theorem dX11_three_53 : decode cX11_three 53 = .ok (.isub, 1) := by decide +kernel
theorem dX11_three_54 : decode cX11_three 54 = .ok (.ior, 1) := by decide +kernel
theorem dX11_three_55 : decode cX11_three 55 = .ok (.putfield 331, 3) := by decide +kernel
theorem dX11_three_58 : decode cX11_three 58 = .ok (.iconst 1, 1) := by decide +kernel
theorem dX11_three_59 : decode cX11_three 59 = .ok (.ireturn, 1) := by decide +kernel
theorem dX11_three_60 : decode cX11_three 60 = .ok (.aload_n 0, 1) := by decide +kernel
theorem dX11_three_61 : decode cX11_three 61 = .ok (.invokevirtual 246, 3) := by decide +kernel
theorem dX11_three_64 : decode cX11_three 64 = .ok (.ifCond .ne 8, 3) := by decide +kernel
theorem dX11_three_67 : decode cX11_three 67 = .ok (.aload_n 0, 1) := by decide +kernel
theorem dX11_three_68 : decode cX11_three 68 = .ok (.invokevirtual 309, 3) := by decide +kernel
theorem dX11_three_71 : decode cX11_three 71 = .ok (.ireturn, 1) := by decide +kernel
theorem dX11_three_72 : decode cX11_three 72 = .ok (.aload_n 0, 1) := by decide +kernel
theorem dX11_three_73 : decode cX11_three 73 = .ok (.dup, 1) := by decide +kernel
theorem dX11_three_74 : decode cX11_three 74 = .ok (.getfield 331, 3) := by decide +kernel
theorem dX11_three_77 : decode cX11_three 77 = .ok (.bipush 32, 2) := by decide +kernel
theorem dX11_three_79 : decode cX11_three 79 = .ok (.aload_n 0, 1) := by decide +kernel
theorem dX11_three_80 : decode cX11_three 80 = .ok (.getfield 232, 3) := by decide +kernel
theorem dX11_three_83 : decode cX11_three 83 = .ok (.bipush 31, 2) := by decide +kernel
theorem dX11_three_85 : decode cX11_three 85 = .ok (.iand, 1) := by decide +kernel
theorem dX11_three_86 : decode cX11_three 86 = .ok (.ior, 1) := by decide +kernel
theorem dX11_three_87 : decode cX11_three 87 = .ok (.ior, 1) := by decide +kernel
theorem dX11_three_88 : decode cX11_three 88 = .ok (.putfield 331, 3) := by decide +kernel
theorem dX11_three_91 : decode cX11_three 91 = .ok (.aload_n 0, 1) := by decide +kernel
theorem dX11_three_92 : decode cX11_three 92 = .ok (.getfield 232, 3) := by decide +kernel
theorem dX11_three_95 : decode cX11_three 95 = .ok (.bipush (-16), 2) := by decide +kernel
theorem dX11_three_97 : decode cX11_three 97 = .ok (.if_icmp .lt 12, 3) := by decide +kernel
theorem dX11_three_100 : decode cX11_three 100 = .ok (.aload_n 0, 1) := by decide +kernel
theorem dX11_three_101 : decode cX11_three 101 = .ok (.getfield 232, 3) := by decide +kernel
theorem dX11_three_104 : decode cX11_three 104 = .ok (.bipush 15, 2) := by decide +kernel
theorem dX11_three_106 : decode cX11_three 106 = .ok (.if_icmp .le 15, 3) := by decide +kernel
theorem dX11_three_109 : decode cX11_three 109 = .ok (.aload_n 0, 1) := by decide +kernel
theorem dX11_three_110 : decode cX11_three 110 = .ok (.iconst 2, 1) := by decide +kernel
theorem dX11_three_111 : decode cX11_three 111 = .ok (.aload_n 0, 1) := by decide +kernel
theorem dX11_three_112 : decode cX11_three 112 = .ok (.getfield 211, 3) := by decide +kernel
theorem dX11_three_115 : decode cX11_three 115 = .ok (.invokevirtual 258, 3) := by decide +kernel
theorem dX11_three_118 : decode cX11_three 118 = .ok (.ifCond .eq 7, 3) := by decide +kernel
theorem dX11_three_121 : decode cX11_three 121 = .ok (.iconst 1, 1) := by decide +kernel
theorem dX11_three_122 : decode cX11_three 122 = .ok (.goto 4, 3) := by decide +kernel
theorem dX11_three_125 : decode cX11_three 125 = .ok (.iconst 0, 1) := by decide +kernel
theorem dX11_three_126 : decode cX11_three 126 = .ok (.ireturn, 1) := by decide +kernel
theorem dX11_based_0 : decode cX11_based 0 = .ok (.aload_n 0, 1) := by decide +kernel
theorem dX11_based_1 : decode cX11_based 1 = .ok (.bipush 9, 2) := by decide +kernel
theorem dX11_based_3 : decode cX11_based 3 = .ok (.iload_n 1, 1) := by decide +kernel
theorem dX11_based_4 : decode cX11_based 4 = .ok (.invokevirtual 348, 3) := by decide +kernel
theorem dX11_based_7 : decode cX11_based 7 = .ok (.ifCond .eq 27, 3) := by decide +kernel
theorem dX11_based_10 : decode cX11_based 10 = .ok (.aload_n 0, 1) := by decide +kernel
theorem dX11_based_11 : decode cX11_based 11 = .ok (.bipush 6, 2) := by decide +kernel
theorem dX11_based_13 : decode cX11_based 13 = .ok (.aload_n 0, 1) := by decide +kernel
theorem dX11_based_14 : decode cX11_based 14 = .ok (.getfield 331, 3) := by decide +kernel
theorem dX11_based_17 : decode cX11_based 17 = .ok (.invokevirtual 348, 3) := by decide +kernel
theorem dX11_based_20 : decode cX11_based 20 = .ok (.ifCond .eq 14, 3) := by decide +kernel
theorem dX11_based_23 : decode cX11_based 23 = .ok (.aload_n 0, 1) := by decide +kernel
theorem dX11_based_24 : decode cX11_based 24 = .ok (.bipush (-32), 2) := by decide +kernel
theorem dX11_based_26 : decode cX11_based 26 = .ok (.bipush 31, 2) := by decide +kernel
theorem dX11_based_28 : decode cX11_based 28 = .ok (.invokevirtual 358, 3) := by decide +kernel
theorem dX11_based_31 : decode cX11_based 31 = .ok (.ifCond .ne 5, 3) := by decide +kernel
theorem dX11_based_34 : decode cX11_based 34 = .ok (.iconst 0, 1) := by decide +kernel
theorem dX11_based_35 : decode cX11_based 35 = .ok (.ireturn, 1) := by decide +kernel
theorem dX11_based_36 : decode cX11_based 36 = .ok (.aload_n 0, 1) := by decide +kernel
theorem dX11_based_37 : decode cX11_based 37 = .ok (.dup, 1) := by decide +kernel
theorem dX11_based_38 : decode cX11_based 38 = .ok (.getfield 331, 3) := by decide +kernel
theorem dX11_based_41 : decode cX11_based 41 = .ok (.aload_n 0, 1) := by decide +kernel
theorem dX11_based_42 : decode cX11_based 42 = .ok (.getfield 232, 3) := by decide +kernel
theorem dX11_based_45 : decode cX11_based 45 = .ok (.bipush 63, 2) := by decide +kernel
theorem dX11_based_47 : decode cX11_based 47 = .ok (.iand, 1) := by decide +kernel
theorem dX11_based_48 : decode cX11_based 48 = .ok (.ior, 1) := by decide +kernel
theorem dX11_based_49 : decode cX11_based 49 = .ok (.putfield 331, 3) := by decide +kernel
theorem dX11_based_52 : decode cX11_based 52 = .ok (.iconst 1, 1) := by decide +kernel
theorem dX11_based_53 : decode cX11_based 53 = .ok (.ireturn, 1) := by decide +kernel
theorem dX11_told_0 : decode cX11_told 0 = .ok (.aload_n 0, 1) := by decide +kernel
theorem dX11_told_1 : decode cX11_told 1 = .ok (.iload_n 1, 1) := by decide +kernel
theorem dX11_told_2 : decode cX11_told 2 = .ok (.ifCond .lt 8, 3) := by decide +kernel
theorem dX11_told_5 : decode cX11_told 5 = .ok (.iload_n 1, 1) := by decide +kernel
theorem dX11_told_6 : decode cX11_told 6 = .ok (.iconst 4, 1) := by decide +kernel
theorem dX11_told_7 : decode cX11_told 7 = .ok (.if_icmp .le 7, 3) := by decide +kernel
theorem dX11_told_10 : decode cX11_told 10 = .ok (.iconst 1, 1) := by decide +kernel
theorem dX11_told_11 : decode cX11_told 11 = .ok (.goto 4, 3) := by decide +kernel
theorem dX11_told_14 : decode cX11_told 14 = .ok (.iconst 0, 1) := by decide +kernel
theorem dX11_told_15 : decode cX11_told 15 = .ok (.putfield 60, 3) := by decide +kernel
theorem dX11_told_18 : decode cX11_told 18 = .ok (.iload_n 1, 1) := by decide +kernel
theorem dX11_told_19 : decode cX11_told 19 = .ok (.ifCond .ne 10, 3) := by decide +kernel
theorem dX11_told_22 : decode cX11_told 22 = .ok (.aload_n 0, 1) := by decide +kernel
theorem dX11_told_23 : decode cX11_told 23 = .ok (.getfield 255, 3) := by decide +kernel
theorem dX11_told_26 : decode cX11_told 26 = .ok (.goto 52, 3) := by decide +kernel
theorem dX11_told_29 : decode cX11_told 29 = .ok (.iload_n 1, 1) := by decide +kernel
theorem dX11_told_30 : decode cX11_told 30 = .ok (.iconst 1, 1) := by decide +kernel
theorem dX11_told_31 : decode cX11_told 31 = .ok (.if_icmp .ne 10, 3) := by decide +kernel
theorem dX11_told_34 : decode cX11_told 34 = .ok (.aload_n 0, 1) := by decide +kernel
theorem dX11_told_35 : decode cX11_told 35 = .ok (.getfield 32, 3) := by decide +kernel
theorem dX11_told_38 : decode cX11_told 38 = .ok (.goto 40, 3) := by decide +kernel
theorem dX11_told_41 : decode cX11_told 41 = .ok (.iload_n 1, 1) := by decide +kernel
theorem dX11_told_42 : decode cX11_told 42 = .ok (.iconst 2, 1) := by decide +kernel
theorem dX11_told_43 : decode cX11_told 43 = .ok (.if_icmp .ne 10, 3) := by decide +kernel
theorem dX11_told_46 : decode cX11_told 46 = .ok (.aload_n 0, 1) := by decide +kernel
theorem dX11_told_47 : decode cX11_told 47 = .ok (.getfield 283, 3) := by decide +kernel
theorem dX11_told_50 : decode cX11_told 50 = .ok (.goto 28, 3) := by decide +kernel
theorem dX11_told_53 : decode cX11_told 53 = .ok (.iload_n 1, 1) := by decide +kernel
theorem dX11_told_54 : decode cX11_told 54 = .ok (.iconst 3, 1) := by decide +kernel
theorem dX11_told_55 : decode cX11_told 55 = .ok (.if_icmp .ne 10, 3) := by decide +kernel
theorem dX11_told_58 : decode cX11_told 58 = .ok (.aload_n 0, 1) := by decide +kernel
theorem dX11_told_59 : decode cX11_told 59 = .ok (.getfield 277, 3) := by decide +kernel
theorem dX11_told_62 : decode cX11_told 62 = .ok (.goto 16, 3) := by decide +kernel
theorem dX11_told_65 : decode cX11_told 65 = .ok (.iload_n 1, 1) := by decide +kernel
theorem dX11_told_66 : decode cX11_told 66 = .ok (.iconst 4, 1) := by decide +kernel
theorem dX11_told_67 : decode cX11_told 67 = .ok (.if_icmp .ne 10, 3) := by decide +kernel
theorem dX11_told_70 : decode cX11_told 70 = .ok (.aload_n 0, 1) := by decide +kernel
theorem dX11_told_71 : decode cX11_told 71 = .ok (.getfield 286, 3) := by decide +kernel
theorem dX11_told_74 : decode cX11_told 74 = .ok (.goto 4, 3) := by decide +kernel
theorem dX11_told_77 : decode cX11_told 77 = .ok (.iconst 0, 1) := by decide +kernel
theorem dX11_told_78 : decode cX11_told 78 = .ok (.ireturn, 1) := by decide +kernel
theorem dX11_word_0 : decode cX11_word 0 = .ok (.aload_n 0, 1) := by decide +kernel
theorem dX11_word_1 : decode cX11_word 1 = .ok (.iload_n 1, 1) := by decide +kernel
theorem dX11_word_2 : decode cX11_word 2 = .ok (.ifCond .lt 11, 3) := by decide +kernel
theorem dX11_word_5 : decode cX11_word 5 = .ok (.iload_n 1, 1) := by decide +kernel
theorem dX11_word_6 : decode cX11_word 6 = .ok (.aload_n 0, 1) := by decide +kernel
theorem dX11_word_7 : decode cX11_word 7 = .ok (.getfield 283, 3) := by decide +kernel
theorem dX11_word_10 : decode cX11_word 10 = .ok (.if_icmp .lt 7, 3) := by decide +kernel
theorem dX11_word_13 : decode cX11_word 13 = .ok (.iconst 1, 1) := by decide +kernel
theorem dX11_word_14 : decode cX11_word 14 = .ok (.goto 4, 3) := by decide +kernel
theorem dX11_word_17 : decode cX11_word 17 = .ok (.iconst 0, 1) := by decide +kernel
theorem dX11_word_18 : decode cX11_word 18 = .ok (.putfield 60, 3) := by decide +kernel
theorem dX11_word_21 : decode cX11_word 21 = .ok (.aload_n 0, 1) := by decide +kernel
theorem dX11_word_22 : decode cX11_word 22 = .ok (.getfield 60, 3) := by decide +kernel
theorem dX11_word_25 : decode cX11_word 25 = .ok (.ifCond .le 7, 3) := by decide +kernel
theorem dX11_word_28 : decode cX11_word 28 = .ok (.iconst 0, 1) := by decide +kernel
theorem dX11_word_29 : decode cX11_word 29 = .ok (.goto 9, 3) := by decide +kernel
theorem dX11_word_32 : decode cX11_word 32 = .ok (.aload_n 0, 1) := by decide +kernel
theorem dX11_word_33 : decode cX11_word 33 = .ok (.getfield 26, 3) := by decide +kernel
theorem dX11_word_36 : decode cX11_word 36 = .ok (.iload_n 1, 1) := by decide +kernel
theorem dX11_word_37 : decode cX11_word 37 = .ok (.iaload, 1) := by decide +kernel
theorem dX11_word_38 : decode cX11_word 38 = .ok (.ireturn, 1) := by decide +kernel
theorem dX11_label_0 : decode cX11_label 0 = .ok (.aload_n 0, 1) := by decide +kernel
theorem dX11_label_1 : decode cX11_label 1 = .ok (.iload_n 1, 1) := by decide +kernel
theorem dX11_label_2 : decode cX11_label 2 = .ok (.ifCond .lt 11, 3) := by decide +kernel
theorem dX11_label_5 : decode cX11_label 5 = .ok (.iload_n 1, 1) := by decide +kernel
theorem dX11_label_6 : decode cX11_label 6 = .ok (.aload_n 0, 1) := by decide +kernel
theorem dX11_label_7 : decode cX11_label 7 = .ok (.getfield 286, 3) := by decide +kernel
theorem dX11_label_10 : decode cX11_label 10 = .ok (.if_icmp .lt 7, 3) := by decide +kernel
theorem dX11_label_13 : decode cX11_label 13 = .ok (.iconst 1, 1) := by decide +kernel
theorem dX11_label_14 : decode cX11_label 14 = .ok (.goto 4, 3) := by decide +kernel
theorem dX11_label_17 : decode cX11_label 17 = .ok (.iconst 0, 1) := by decide +kernel
theorem dX11_label_18 : decode cX11_label 18 = .ok (.putfield 60, 3) := by decide +kernel
theorem dX11_label_21 : decode cX11_label 21 = .ok (.aload_n 0, 1) := by decide +kernel
theorem dX11_label_22 : decode cX11_label 22 = .ok (.getfield 60, 3) := by decide +kernel
theorem dX11_label_25 : decode cX11_label 25 = .ok (.ifCond .le 7, 3) := by decide +kernel
theorem dX11_label_28 : decode cX11_label 28 = .ok (.iconst 0, 1) := by decide +kernel
theorem dX11_label_29 : decode cX11_label 29 = .ok (.goto 9, 3) := by decide +kernel
theorem dX11_label_32 : decode cX11_label 32 = .ok (.aload_n 0, 1) := by decide +kernel
theorem dX11_label_33 : decode cX11_label 33 = .ok (.getfield 29, 3) := by decide +kernel
theorem dX11_label_36 : decode cX11_label 36 = .ok (.iload_n 1, 1) := by decide +kernel
theorem dX11_label_37 : decode cX11_label 37 = .ok (.iaload, 1) := by decide +kernel
theorem dX11_label_38 : decode cX11_label 38 = .ok (.ireturn, 1) := by decide +kernel
theorem dX11_load_0 : decode cX11_load 0 = .ok (.aload_n 0, 1) := by decide +kernel
theorem dX11_load_1 : decode cX11_load 1 = .ok (.iconst 0, 1) := by decide +kernel
theorem dX11_load_2 : decode cX11_load 2 = .ok (.putfield 60, 3) := by decide +kernel
theorem dX11_load_5 : decode cX11_load 5 = .ok (.aload_n 0, 1) := by decide +kernel
theorem dX11_load_6 : decode cX11_load 6 = .ok (.getfield 271, 3) := by decide +kernel
theorem dX11_load_9 : decode cX11_load 9 = .ok (.ifCond .ne 5, 3) := by decide +kernel
theorem dX11_load_12 : decode cX11_load 12 = .ok (.iconst 0, 1) := by decide +kernel
theorem dX11_load_13 : decode cX11_load 13 = .ok (.ireturn, 1) := by decide +kernel
theorem dX11_load_14 : decode cX11_load 14 = .ok (.aload_n 0, 1) := by decide +kernel
theorem dX11_load_15 : decode cX11_load 15 = .ok (.invokevirtual 54, 3) := by decide +kernel
theorem dX11_load_18 : decode cX11_load 18 = .ok (.aload_n 0, 1) := by decide +kernel
theorem dX11_load_19 : decode cX11_load 19 = .ok (.aload_n 0, 1) := by decide +kernel
theorem dX11_load_20 : decode cX11_load 20 = .ok (.getfield 277, 3) := by decide +kernel
theorem dX11_load_23 : decode cX11_load 23 = .ok (.putfield 57, 3) := by decide +kernel
theorem dX11_load_26 : decode cX11_load 26 = .ok (.iconst 0, 1) := by decide +kernel
theorem dX11_load_27 : decode cX11_load 27 = .ok (.istore_n 1, 1) := by decide +kernel
theorem dX11_load_28 : decode cX11_load 28 = .ok (.iload_n 1, 1) := by decide +kernel
theorem dX11_load_29 : decode cX11_load 29 = .ok (.aload_n 0, 1) := by decide +kernel
theorem dX11_load_30 : decode cX11_load 30 = .ok (.getfield 283, 3) := by decide +kernel
theorem dX11_load_33 : decode cX11_load 33 = .ok (.if_icmp .ge 26, 3) := by decide +kernel
theorem dX11_load_36 : decode cX11_load 36 = .ok (.aload_n 0, 1) := by decide +kernel
theorem dX11_load_37 : decode cX11_load 37 = .ok (.getfield 8, 3) := by decide +kernel
theorem dX11_load_40 : decode cX11_load 40 = .ok (.aload_n 0, 1) := by decide +kernel
theorem dX11_load_41 : decode cX11_load 41 = .ok (.getfield 277, 3) := by decide +kernel
theorem dX11_load_44 : decode cX11_load 44 = .ok (.iload_n 1, 1) := by decide +kernel
theorem dX11_load_45 : decode cX11_load 45 = .ok (.iadd, 1) := by decide +kernel
theorem dX11_load_46 : decode cX11_load 46 = .ok (.aload_n 0, 1) := by decide +kernel
theorem dX11_load_47 : decode cX11_load 47 = .ok (.getfield 26, 3) := by decide +kernel
theorem dX11_load_50 : decode cX11_load 50 = .ok (.iload_n 1, 1) := by decide +kernel
theorem dX11_load_51 : decode cX11_load 51 = .ok (.iaload, 1) := by decide +kernel
theorem dX11_load_52 : decode cX11_load 52 = .ok (.iastore, 1) := by decide +kernel
theorem dX11_load_53 : decode cX11_load 53 = .ok (.iinc 1 1, 3) := by decide +kernel
theorem dX11_load_56 : decode cX11_load 56 = .ok (.goto (-28), 3) := by decide +kernel
theorem dX11_load_59 : decode cX11_load 59 = .ok (.iconst 1, 1) := by decide +kernel
theorem dX11_load_60 : decode cX11_load 60 = .ok (.ireturn, 1) := by decide +kernel
theorem dX11_say_0 : decode cX11_say 0 = .ok (.aload_n 0, 1) := by decide +kernel
theorem dX11_say_1 : decode cX11_say 1 = .ok (.getfield 48, 3) := by decide +kernel
theorem dX11_say_4 : decode cX11_say 4 = .ok (.aload_n 0, 1) := by decide +kernel
theorem dX11_say_5 : decode cX11_say 5 = .ok (.getfield 363, 3) := by decide +kernel
theorem dX11_say_8 : decode cX11_say 8 = .ok (.iload_n 1, 1) := by decide +kernel
theorem dX11_say_9 : decode cX11_say 9 = .ok (.iastore, 1) := by decide +kernel
theorem dX11_say_10 : decode cX11_say 10 = .ok (.aload_n 0, 1) := by decide +kernel
theorem dX11_say_11 : decode cX11_say 11 = .ok (.dup, 1) := by decide +kernel
theorem dX11_say_12 : decode cX11_say 12 = .ok (.getfield 363, 3) := by decide +kernel
theorem dX11_say_15 : decode cX11_say 15 = .ok (.iconst 1, 1) := by decide +kernel
theorem dX11_say_16 : decode cX11_say 16 = .ok (.iadd, 1) := by decide +kernel
theorem dX11_say_17 : decode cX11_say 17 = .ok (.putfield 363, 3) := by decide +kernel
theorem dX11_say_20 : decode cX11_say 20 = .ok (.return_, 1) := by decide +kernel
theorem dX11_sayName_0 : decode cX11_sayName 0 = .ok (.iconst 0, 1) := by decide +kernel
theorem dX11_sayName_1 : decode cX11_sayName 1 = .ok (.istore_n 2, 1) := by decide +kernel
theorem dX11_sayName_2 : decode cX11_sayName 2 = .ok (.iconst 0, 1) := by decide +kernel
theorem dX11_sayName_3 : decode cX11_sayName 3 = .ok (.istore_n 3, 1) := by decide +kernel
theorem dX11_sayName_4 : decode cX11_sayName 4 = .ok (.iload_n 3, 1) := by decide +kernel
theorem dX11_sayName_5 : decode cX11_sayName 5 = .ok (.iload_n 1, 1) := by decide +kernel
theorem dX11_sayName_6 : decode cX11_sayName 6 = .ok (.if_icmp .ge 29, 3) := by decide +kernel
theorem dX11_sayName_9 : decode cX11_sayName 9 = .ok (.ldc 235, 2) := by decide +kernel
theorem dX11_sayName_11 : decode cX11_sayName 11 = .ok (.iload_n 2, 1) := by decide +kernel
theorem dX11_sayName_12 : decode cX11_sayName 12 = .ok (.invokevirtual 242, 3) := by decide +kernel
theorem dX11_sayName_15 : decode cX11_sayName 15 = .ok (.bipush 32, 2) := by decide +kernel
theorem dX11_sayName_17 : decode cX11_sayName 17 = .ok (.if_icmp .eq 9, 3) := by decide +kernel
theorem dX11_sayName_20 : decode cX11_sayName 20 = .ok (.iinc 2 1, 3) := by decide +kernel
theorem dX11_sayName_23 : decode cX11_sayName 23 = .ok (.goto (-14), 3) := by decide +kernel
theorem dX11_sayName_26 : decode cX11_sayName 26 = .ok (.iinc 2 1, 3) := by decide +kernel
theorem dX11_sayName_29 : decode cX11_sayName 29 = .ok (.iinc 3 1, 3) := by decide +kernel
theorem dX11_sayName_32 : decode cX11_sayName 32 = .ok (.goto (-28), 3) := by decide +kernel
theorem dX11_sayName_35 : decode cX11_sayName 35 = .ok (.iload_n 2, 1) := by decide +kernel
theorem dX11_sayName_36 : decode cX11_sayName 36 = .ok (.istore_n 3, 1) := by decide +kernel
theorem dX11_sayName_37 : decode cX11_sayName 37 = .ok (.ldc 235, 2) := by decide +kernel
theorem dX11_sayName_39 : decode cX11_sayName 39 = .ok (.iload_n 3, 1) := by decide +kernel
theorem dX11_sayName_40 : decode cX11_sayName 40 = .ok (.invokevirtual 242, 3) := by decide +kernel
theorem dX11_sayName_43 : decode cX11_sayName 43 = .ok (.bipush 32, 2) := by decide +kernel
theorem dX11_sayName_45 : decode cX11_sayName 45 = .ok (.if_icmp .eq 19, 3) := by decide +kernel
theorem dX11_sayName_48 : decode cX11_sayName 48 = .ok (.aload_n 0, 1) := by decide +kernel
theorem dX11_sayName_49 : decode cX11_sayName 49 = .ok (.ldc 235, 2) := by decide +kernel
theorem dX11_sayName_51 : decode cX11_sayName 51 = .ok (.iload_n 3, 1) := by decide +kernel
theorem dX11_sayName_52 : decode cX11_sayName 52 = .ok (.invokevirtual 242, 3) := by decide +kernel
theorem dX11_sayName_55 : decode cX11_sayName 55 = .ok (.invokevirtual 366, 3) := by decide +kernel
theorem dX11_sayName_58 : decode cX11_sayName 58 = .ok (.iinc 3 1, 3) := by decide +kernel
theorem dX11_sayName_61 : decode cX11_sayName 61 = .ok (.goto (-24), 3) := by decide +kernel
theorem dX11_sayName_64 : decode cX11_sayName 64 = .ok (.return_, 1) := by decide +kernel
theorem dX11_sayRegister_0 : decode cX11_sayRegister 0 = .ok (.aload_n 0, 1) := by decide +kernel
theorem dX11_sayRegister_1 : decode cX11_sayRegister 1 = .ok (.bipush 82, 2) := by decide +kernel
theorem dX11_sayRegister_3 : decode cX11_sayRegister 3 = .ok (.invokevirtual 366, 3) := by decide +kernel
theorem dX11_sayRegister_6 : decode cX11_sayRegister 6 = .ok (.aload_n 0, 1) := by decide +kernel
theorem dX11_sayRegister_7 : decode cX11_sayRegister 7 = .ok (.bipush 48, 2) := by decide +kernel
theorem dX11_sayRegister_9 : decode cX11_sayRegister 9 = .ok (.iload_n 1, 1) := by decide +kernel
theorem dX11_sayRegister_10 : decode cX11_sayRegister 10 = .ok (.iadd, 1) := by decide +kernel
theorem dX11_sayRegister_11 : decode cX11_sayRegister 11 = .ok (.invokevirtual 366, 3) := by decide +kernel
theorem dX11_sayRegister_14 : decode cX11_sayRegister 14 = .ok (.return_, 1) := by decide +kernel
theorem dX11_sayBetween_0 : decode cX11_sayBetween 0 = .ok (.aload_n 0, 1) := by decide +kernel
theorem dX11_sayBetween_1 : decode cX11_sayBetween 1 = .ok (.bipush 44, 2) := by decide +kernel
theorem dX11_sayBetween_3 : decode cX11_sayBetween 3 = .ok (.invokevirtual 366, 3) := by decide +kernel
theorem dX11_sayBetween_6 : decode cX11_sayBetween 6 = .ok (.aload_n 0, 1) := by decide +kernel
theorem dX11_sayBetween_7 : decode cX11_sayBetween 7 = .ok (.bipush 32, 2) := by decide +kernel
theorem dX11_sayBetween_9 : decode cX11_sayBetween 9 = .ok (.invokevirtual 366, 3) := by decide +kernel
theorem dX11_sayBetween_12 : decode cX11_sayBetween 12 = .ok (.return_, 1) := by decide +kernel
theorem dX11_sayNumber_0 : decode cX11_sayNumber 0 = .ok (.aload_n 0, 1) := by decide +kernel
theorem dX11_sayNumber_1 : decode cX11_sayNumber 1 = .ok (.bipush 35, 2) := by decide +kernel
theorem dX11_sayNumber_3 : decode cX11_sayNumber 3 = .ok (.invokevirtual 366, 3) := by decide +kernel
theorem dX11_sayNumber_6 : decode cX11_sayNumber 6 = .ok (.iload_n 1, 1) := by decide +kernel
theorem dX11_sayNumber_7 : decode cX11_sayNumber 7 = .ok (.ifCond .ge 9, 3) := by decide +kernel
theorem dX11_sayNumber_10 : decode cX11_sayNumber 10 = .ok (.aload_n 0, 1) := by decide +kernel
theorem dX11_sayNumber_11 : decode cX11_sayNumber 11 = .ok (.bipush 45, 2) := by decide +kernel
theorem dX11_sayNumber_13 : decode cX11_sayNumber 13 = .ok (.invokevirtual 366, 3) := by decide +kernel
theorem dX11_sayNumber_16 : decode cX11_sayNumber 16 = .ok (.iload_n 1, 1) := by decide +kernel
theorem dX11_sayNumber_17 : decode cX11_sayNumber 17 = .ok (.ifCond .ge 8, 3) := by decide +kernel
theorem dX11_sayNumber_20 : decode cX11_sayNumber 20 = .ok (.iload_n 1, 1) := by decide +kernel
theorem dX11_sayNumber_21 : decode cX11_sayNumber 21 = .ok (.ineg, 1) := by decide +kernel
theorem dX11_sayNumber_22 : decode cX11_sayNumber 22 = .ok (.goto 4, 3) := by decide +kernel
theorem dX11_sayNumber_25 : decode cX11_sayNumber 25 = .ok (.iload_n 1, 1) := by decide +kernel
theorem dX11_sayNumber_26 : decode cX11_sayNumber 26 = .ok (.istore_n 2, 1) := by decide +kernel
theorem dX11_sayNumber_27 : decode cX11_sayNumber 27 = .ok (.iload_n 2, 1) := by decide +kernel
theorem dX11_sayNumber_28 : decode cX11_sayNumber 28 = .ok (.sipush 999, 3) := by decide +kernel
theorem dX11_sayNumber_31 : decode cX11_sayNumber 31 = .ok (.if_icmp .le 15, 3) := by decide +kernel
theorem dX11_sayNumber_34 : decode cX11_sayNumber 34 = .ok (.aload_n 0, 1) := by decide +kernel
theorem dX11_sayNumber_35 : decode cX11_sayNumber 35 = .ok (.bipush 48, 2) := by decide +kernel
theorem dX11_sayNumber_37 : decode cX11_sayNumber 37 = .ok (.iload_n 2, 1) := by decide +kernel
theorem dX11_sayNumber_38 : decode cX11_sayNumber 38 = .ok (.sipush 1000, 3) := by decide +kernel
theorem dX11_sayNumber_41 : decode cX11_sayNumber 41 = .ok (.idiv, 1) := by decide +kernel
theorem dX11_sayNumber_42 : decode cX11_sayNumber 42 = .ok (.iadd, 1) := by decide +kernel
theorem dX11_sayNumber_43 : decode cX11_sayNumber 43 = .ok (.invokevirtual 366, 3) := by decide +kernel
theorem dX11_sayNumber_46 : decode cX11_sayNumber 46 = .ok (.iload_n 2, 1) := by decide +kernel
theorem dX11_sayNumber_47 : decode cX11_sayNumber 47 = .ok (.bipush 99, 2) := by decide +kernel
theorem dX11_sayNumber_49 : decode cX11_sayNumber 49 = .ok (.if_icmp .le 17, 3) := by decide +kernel
theorem dX11_sayNumber_52 : decode cX11_sayNumber 52 = .ok (.aload_n 0, 1) := by decide +kernel
theorem dX11_sayNumber_53 : decode cX11_sayNumber 53 = .ok (.bipush 48, 2) := by decide +kernel
theorem dX11_sayNumber_55 : decode cX11_sayNumber 55 = .ok (.iload_n 2, 1) := by decide +kernel
theorem dX11_sayNumber_56 : decode cX11_sayNumber 56 = .ok (.bipush 100, 2) := by decide +kernel
theorem dX11_sayNumber_58 : decode cX11_sayNumber 58 = .ok (.idiv, 1) := by decide +kernel
theorem dX11_sayNumber_59 : decode cX11_sayNumber 59 = .ok (.bipush 10, 2) := by decide +kernel
theorem dX11_sayNumber_61 : decode cX11_sayNumber 61 = .ok (.irem, 1) := by decide +kernel
theorem dX11_sayNumber_62 : decode cX11_sayNumber 62 = .ok (.iadd, 1) := by decide +kernel
theorem dX11_sayNumber_63 : decode cX11_sayNumber 63 = .ok (.invokevirtual 366, 3) := by decide +kernel
theorem dX11_sayNumber_66 : decode cX11_sayNumber 66 = .ok (.iload_n 2, 1) := by decide +kernel
theorem dX11_sayNumber_67 : decode cX11_sayNumber 67 = .ok (.bipush 9, 2) := by decide +kernel
theorem dX11_sayNumber_69 : decode cX11_sayNumber 69 = .ok (.if_icmp .le 17, 3) := by decide +kernel
theorem dX11_sayNumber_72 : decode cX11_sayNumber 72 = .ok (.aload_n 0, 1) := by decide +kernel
theorem dX11_sayNumber_73 : decode cX11_sayNumber 73 = .ok (.bipush 48, 2) := by decide +kernel
theorem dX11_sayNumber_75 : decode cX11_sayNumber 75 = .ok (.iload_n 2, 1) := by decide +kernel
theorem dX11_sayNumber_76 : decode cX11_sayNumber 76 = .ok (.bipush 10, 2) := by decide +kernel
theorem dX11_sayNumber_78 : decode cX11_sayNumber 78 = .ok (.idiv, 1) := by decide +kernel
theorem dX11_sayNumber_79 : decode cX11_sayNumber 79 = .ok (.bipush 10, 2) := by decide +kernel
theorem dX11_sayNumber_81 : decode cX11_sayNumber 81 = .ok (.irem, 1) := by decide +kernel
theorem dX11_sayNumber_82 : decode cX11_sayNumber 82 = .ok (.iadd, 1) := by decide +kernel
theorem dX11_sayNumber_83 : decode cX11_sayNumber 83 = .ok (.invokevirtual 366, 3) := by decide +kernel
theorem dX11_sayNumber_86 : decode cX11_sayNumber 86 = .ok (.aload_n 0, 1) := by decide +kernel
theorem dX11_sayNumber_87 : decode cX11_sayNumber 87 = .ok (.bipush 48, 2) := by decide +kernel
theorem dX11_sayNumber_89 : decode cX11_sayNumber 89 = .ok (.iload_n 2, 1) := by decide +kernel
theorem dX11_sayNumber_90 : decode cX11_sayNumber 90 = .ok (.bipush 10, 2) := by decide +kernel
theorem dX11_sayNumber_92 : decode cX11_sayNumber 92 = .ok (.irem, 1) := by decide +kernel
theorem dX11_sayNumber_93 : decode cX11_sayNumber 93 = .ok (.iadd, 1) := by decide +kernel
theorem dX11_sayNumber_94 : decode cX11_sayNumber 94 = .ok (.invokevirtual 366, 3) := by decide +kernel
theorem dX11_sayNumber_97 : decode cX11_sayNumber 97 = .ok (.return_, 1) := by decide +kernel
theorem dX11_sayHex_0 : decode cX11_sayHex 0 = .ok (.aload_n 0, 1) := by decide +kernel
theorem dX11_sayHex_1 : decode cX11_sayHex 1 = .ok (.bipush 120, 2) := by decide +kernel
theorem dX11_sayHex_3 : decode cX11_sayHex 3 = .ok (.invokevirtual 366, 3) := by decide +kernel
theorem dX11_sayHex_6 : decode cX11_sayHex 6 = .ok (.iload_n 2, 1) := by decide +kernel
theorem dX11_sayHex_7 : decode cX11_sayHex 7 = .ok (.iconst 1, 1) := by decide +kernel
theorem dX11_sayHex_8 : decode cX11_sayHex 8 = .ok (.isub, 1) := by decide +kernel
theorem dX11_sayHex_9 : decode cX11_sayHex 9 = .ok (.istore_n 3, 1) := by decide +kernel
theorem dX11_sayHex_10 : decode cX11_sayHex 10 = .ok (.iload_n 3, 1) := by decide +kernel
theorem dX11_sayHex_11 : decode cX11_sayHex 11 = .ok (.ifCond .lt 46, 3) := by decide +kernel
theorem dX11_sayHex_14 : decode cX11_sayHex 14 = .ok (.iload_n 1, 1) := by decide +kernel
theorem dX11_sayHex_15 : decode cX11_sayHex 15 = .ok (.iconst 4, 1) := by decide +kernel
theorem dX11_sayHex_16 : decode cX11_sayHex 16 = .ok (.iload_n 3, 1) := by decide +kernel
theorem dX11_sayHex_17 : decode cX11_sayHex 17 = .ok (.imul, 1) := by decide +kernel
theorem dX11_sayHex_18 : decode cX11_sayHex 18 = .ok (.ishr, 1) := by decide +kernel
theorem dX11_sayHex_19 : decode cX11_sayHex 19 = .ok (.bipush 15, 2) := by decide +kernel
theorem dX11_sayHex_21 : decode cX11_sayHex 21 = .ok (.iand, 1) := by decide +kernel
theorem dX11_sayHex_22 : decode cX11_sayHex 22 = .ok (.istore 4, 2) := by decide +kernel
theorem dX11_sayHex_24 : decode cX11_sayHex 24 = .ok (.aload_n 0, 1) := by decide +kernel
theorem dX11_sayHex_25 : decode cX11_sayHex 25 = .ok (.iload 4, 2) := by decide +kernel
theorem dX11_sayHex_27 : decode cX11_sayHex 27 = .ok (.bipush 10, 2) := by decide +kernel
theorem dX11_sayHex_29 : decode cX11_sayHex 29 = .ok (.if_icmp .ge 11, 3) := by decide +kernel
theorem dX11_sayHex_32 : decode cX11_sayHex 32 = .ok (.bipush 48, 2) := by decide +kernel
theorem dX11_sayHex_34 : decode cX11_sayHex 34 = .ok (.iload 4, 2) := by decide +kernel
theorem dX11_sayHex_36 : decode cX11_sayHex 36 = .ok (.iadd, 1) := by decide +kernel
theorem dX11_sayHex_37 : decode cX11_sayHex 37 = .ok (.goto 11, 3) := by decide +kernel
theorem dX11_sayHex_40 : decode cX11_sayHex 40 = .ok (.bipush 65, 2) := by decide +kernel
theorem dX11_sayHex_42 : decode cX11_sayHex 42 = .ok (.iload 4, 2) := by decide +kernel
theorem dX11_sayHex_44 : decode cX11_sayHex 44 = .ok (.iadd, 1) := by decide +kernel
theorem dX11_sayHex_45 : decode cX11_sayHex 45 = .ok (.bipush 10, 2) := by decide +kernel
theorem dX11_sayHex_47 : decode cX11_sayHex 47 = .ok (.isub, 1) := by decide +kernel
theorem dX11_sayHex_48 : decode cX11_sayHex 48 = .ok (.invokevirtual 366, 3) := by decide +kernel
theorem dX11_sayHex_51 : decode cX11_sayHex 51 = .ok (.iinc 3 (-1), 3) := by decide +kernel
theorem dX11_sayHex_54 : decode cX11_sayHex 54 = .ok (.goto (-44), 3) := by decide +kernel
theorem dX11_sayHex_57 : decode cX11_sayHex 57 = .ok (.return_, 1) := by decide +kernel
theorem dX11_write_0 : decode cX11_write 0 = .ok (.aload_n 0, 1) := by decide +kernel
theorem dX11_write_1 : decode cX11_write 1 = .ok (.iconst 0, 1) := by decide +kernel
theorem dX11_write_2 : decode cX11_write 2 = .ok (.putfield 60, 3) := by decide +kernel
theorem dX11_write_5 : decode cX11_write 5 = .ok (.aload_n 0, 1) := by decide +kernel
theorem dX11_write_6 : decode cX11_write 6 = .ok (.iload_n 1, 1) := by decide +kernel
theorem dX11_write_7 : decode cX11_write 7 = .ok (.invokestatic 93, 3) := by decide +kernel
theorem dX11_write_10 : decode cX11_write 10 = .ok (.invokevirtual 97, 3) := by decide +kernel
theorem dX11_write_13 : decode cX11_write 13 = .ok (.istore_n 2, 1) := by decide +kernel
theorem dX11_write_14 : decode cX11_write 14 = .ok (.aload_n 0, 1) := by decide +kernel
theorem dX11_write_15 : decode cX11_write 15 = .ok (.iconst 0, 1) := by decide +kernel
theorem dX11_write_16 : decode cX11_write 16 = .ok (.putfield 363, 3) := by decide +kernel
theorem dX11_write_19 : decode cX11_write 19 = .ok (.aload_n 0, 1) := by decide +kernel
theorem dX11_write_20 : decode cX11_write 20 = .ok (.iload_n 2, 1) := by decide +kernel
theorem dX11_write_21 : decode cX11_write 21 = .ok (.invokevirtual 369, 3) := by decide +kernel
theorem dX11_write_24 : decode cX11_write 24 = .ok (.ifCond .ne 21, 3) := by decide +kernel
theorem dX11_write_27 : decode cX11_write 27 = .ok (.aload_n 0, 1) := by decide +kernel
theorem dX11_write_28 : decode cX11_write 28 = .ok (.bipush 31, 2) := by decide +kernel
theorem dX11_write_30 : decode cX11_write 30 = .ok (.invokevirtual 372, 3) := by decide +kernel
theorem dX11_write_33 : decode cX11_write 33 = .ok (.aload_n 0, 1) := by decide +kernel
theorem dX11_write_34 : decode cX11_write 34 = .ok (.bipush 32, 2) := by decide +kernel
theorem dX11_write_36 : decode cX11_write 36 = .ok (.invokevirtual 366, 3) := by decide +kernel
theorem dX11_write_39 : decode cX11_write 39 = .ok (.aload_n 0, 1) := by decide +kernel
theorem dX11_write_40 : decode cX11_write 40 = .ok (.iload_n 2, 1) := by decide +kernel
theorem dX11_write_41 : decode cX11_write 41 = .ok (.iconst 4, 1) := by decide +kernel
theorem dX11_write_42 : decode cX11_write 42 = .ok (.invokevirtual 375, 3) := by decide +kernel
theorem dX11_write_45 : decode cX11_write 45 = .ok (.aload_n 0, 1) := by decide +kernel
theorem dX11_write_46 : decode cX11_write 46 = .ok (.getfield 363, 3) := by decide +kernel
theorem dX11_write_49 : decode cX11_write 49 = .ok (.ireturn, 1) := by decide +kernel
theorem dX11_sayWhere_0 : decode cX11_sayWhere 0 = .ok (.aload_n 0, 1) := by decide +kernel
theorem dX11_sayWhere_1 : decode cX11_sayWhere 1 = .ok (.iload_n 1, 1) := by decide +kernel
theorem dX11_sayWhere_2 : decode cX11_sayWhere 2 = .ok (.invokevirtual 372, 3) := by decide +kernel
theorem dX11_sayWhere_5 : decode cX11_sayWhere 5 = .ok (.aload_n 0, 1) := by decide +kernel
theorem dX11_sayWhere_6 : decode cX11_sayWhere 6 = .ok (.bipush 32, 2) := by decide +kernel
theorem dX11_sayWhere_8 : decode cX11_sayWhere 8 = .ok (.invokevirtual 366, 3) := by decide +kernel
theorem dX11_sayWhere_11 : decode cX11_sayWhere 11 = .ok (.aload_n 0, 1) := by decide +kernel
theorem dX11_sayWhere_12 : decode cX11_sayWhere 12 = .ok (.iload_n 2, 1) := by decide +kernel
theorem dX11_sayWhere_13 : decode cX11_sayWhere 13 = .ok (.bipush 9, 2) := by decide +kernel
theorem dX11_sayWhere_15 : decode cX11_sayWhere 15 = .ok (.ishr, 1) := by decide +kernel
theorem dX11_sayWhere_16 : decode cX11_sayWhere 16 = .ok (.bipush 7, 2) := by decide +kernel
theorem dX11_sayWhere_18 : decode cX11_sayWhere 18 = .ok (.iand, 1) := by decide +kernel
theorem dX11_sayWhere_19 : decode cX11_sayWhere 19 = .ok (.invokevirtual 378, 3) := by decide +kernel
theorem dX11_sayWhere_22 : decode cX11_sayWhere 22 = .ok (.aload_n 0, 1) := by decide +kernel
theorem dX11_sayWhere_23 : decode cX11_sayWhere 23 = .ok (.invokevirtual 381, 3) := by decide +kernel
theorem dX11_sayWhere_26 : decode cX11_sayWhere 26 = .ok (.aload_n 0, 1) := by decide +kernel
theorem dX11_sayWhere_27 : decode cX11_sayWhere 27 = .ok (.iload_n 2, 1) := by decide +kernel
theorem dX11_sayWhere_28 : decode cX11_sayWhere 28 = .ok (.bipush 9, 2) := by decide +kernel
theorem dX11_sayWhere_30 : decode cX11_sayWhere 30 = .ok (.invokestatic 154, 3) := by decide +kernel
theorem dX11_sayWhere_33 : decode cX11_sayWhere 33 = .ok (.invokevirtual 384, 3) := by decide +kernel
theorem dX11_sayWhere_36 : decode cX11_sayWhere 36 = .ok (.return_, 1) := by decide +kernel
theorem dX11_sayTwo_0 : decode cX11_sayTwo 0 = .ok (.aload_n 0, 1) := by decide +kernel
theorem dX11_sayTwo_1 : decode cX11_sayTwo 1 = .ok (.iload_n 1, 1) := by decide +kernel
theorem dX11_sayTwo_2 : decode cX11_sayTwo 2 = .ok (.invokevirtual 372, 3) := by decide +kernel
theorem dX11_sayTwo_5 : decode cX11_sayTwo 5 = .ok (.aload_n 0, 1) := by decide +kernel
theorem dX11_sayTwo_6 : decode cX11_sayTwo 6 = .ok (.bipush 32, 2) := by decide +kernel
theorem dX11_sayTwo_8 : decode cX11_sayTwo 8 = .ok (.invokevirtual 366, 3) := by decide +kernel
theorem dX11_sayTwo_11 : decode cX11_sayTwo 11 = .ok (.aload_n 0, 1) := by decide +kernel
theorem dX11_sayTwo_12 : decode cX11_sayTwo 12 = .ok (.iload_n 2, 1) := by decide +kernel
theorem dX11_sayTwo_13 : decode cX11_sayTwo 13 = .ok (.bipush 9, 2) := by decide +kernel
theorem dX11_sayTwo_15 : decode cX11_sayTwo 15 = .ok (.ishr, 1) := by decide +kernel
theorem dX11_sayTwo_16 : decode cX11_sayTwo 16 = .ok (.bipush 7, 2) := by decide +kernel
theorem dX11_sayTwo_18 : decode cX11_sayTwo 18 = .ok (.iand, 1) := by decide +kernel
theorem dX11_sayTwo_19 : decode cX11_sayTwo 19 = .ok (.invokevirtual 378, 3) := by decide +kernel
theorem dX11_sayTwo_22 : decode cX11_sayTwo 22 = .ok (.aload_n 0, 1) := by decide +kernel
theorem dX11_sayTwo_23 : decode cX11_sayTwo 23 = .ok (.invokevirtual 381, 3) := by decide +kernel
theorem dX11_sayTwo_26 : decode cX11_sayTwo 26 = .ok (.aload_n 0, 1) := by decide +kernel
theorem dX11_sayTwo_27 : decode cX11_sayTwo 27 = .ok (.iload_n 2, 1) := by decide +kernel
theorem dX11_sayTwo_28 : decode cX11_sayTwo 28 = .ok (.bipush 6, 2) := by decide +kernel
theorem dX11_sayTwo_30 : decode cX11_sayTwo 30 = .ok (.ishr, 1) := by decide +kernel
theorem dX11_sayTwo_31 : decode cX11_sayTwo 31 = .ok (.bipush 7, 2) := by decide +kernel
theorem dX11_sayTwo_33 : decode cX11_sayTwo 33 = .ok (.iand, 1) := by decide +kernel
theorem dX11_sayTwo_34 : decode cX11_sayTwo 34 = .ok (.invokevirtual 378, 3) := by decide +kernel
theorem dX11_sayTwo_37 : decode cX11_sayTwo 37 = .ok (.return_, 1) := by decide +kernel
theorem dX11_isTold_0 : decode cX11_isTold 0 = .ok (.iload_n 1, 1) := by decide +kernel
theorem dX11_isTold_1 : decode cX11_isTold 1 = .ok (.bipush 12, 2) := by decide +kernel
theorem dX11_isTold_3 : decode cX11_isTold 3 = .ok (.ishr, 1) := by decide +kernel
theorem dX11_isTold_4 : decode cX11_isTold 4 = .ok (.tableswitch 181 0 14 #[76, 82, 89, 97, 106, 112, 119, 119, 181, 181, 156, 164, 181, 181, 173], 76) := by decide +kernel
theorem dX11_isTold_80 : decode cX11_isTold 80 = .ok (.aload_n 0, 1) := by decide +kernel
theorem dX11_isTold_81 : decode cX11_isTold 81 = .ok (.iload_n 1, 1) := by decide +kernel
theorem dX11_isTold_82 : decode cX11_isTold 82 = .ok (.invokevirtual 387, 3) := by decide +kernel
theorem dX11_isTold_85 : decode cX11_isTold 85 = .ok (.ireturn, 1) := by decide +kernel
theorem dX11_isTold_86 : decode cX11_isTold 86 = .ok (.aload_n 0, 1) := by decide +kernel
theorem dX11_isTold_87 : decode cX11_isTold 87 = .ok (.iconst 0, 1) := by decide +kernel
theorem dX11_isTold_88 : decode cX11_isTold 88 = .ok (.iload_n 1, 1) := by decide +kernel
theorem dX11_isTold_89 : decode cX11_isTold 89 = .ok (.invokevirtual 390, 3) := by decide +kernel
theorem dX11_isTold_92 : decode cX11_isTold 92 = .ok (.ireturn, 1) := by decide +kernel
theorem dX11_isTold_93 : decode cX11_isTold 93 = .ok (.aload_n 0, 1) := by decide +kernel
theorem dX11_isTold_94 : decode cX11_isTold 94 = .ok (.iconst 3, 1) := by decide +kernel
theorem dX11_isTold_95 : decode cX11_isTold 95 = .ok (.iload_n 1, 1) := by decide +kernel
theorem dX11_isTold_96 : decode cX11_isTold 96 = .ok (.invokevirtual 393, 3) := by decide +kernel
theorem dX11_isTold_99 : decode cX11_isTold 99 = .ok (.iconst 1, 1) := by decide +kernel
theorem dX11_isTold_100 : decode cX11_isTold 100 = .ok (.ireturn, 1) := by decide +kernel
theorem dX11_isTold_101 : decode cX11_isTold 101 = .ok (.aload_n 0, 1) := by decide +kernel
theorem dX11_isTold_102 : decode cX11_isTold 102 = .ok (.bipush 6, 2) := by decide +kernel
theorem dX11_isTold_104 : decode cX11_isTold 104 = .ok (.iload_n 1, 1) := by decide +kernel
theorem dX11_isTold_105 : decode cX11_isTold 105 = .ok (.invokevirtual 393, 3) := by decide +kernel
theorem dX11_isTold_108 : decode cX11_isTold 108 = .ok (.iconst 1, 1) := by decide +kernel
theorem dX11_isTold_109 : decode cX11_isTold 109 = .ok (.ireturn, 1) := by decide +kernel
theorem dX11_isTold_110 : decode cX11_isTold 110 = .ok (.aload_n 0, 1) := by decide +kernel
theorem dX11_isTold_111 : decode cX11_isTold 111 = .ok (.iload_n 1, 1) := by decide +kernel
theorem dX11_isTold_112 : decode cX11_isTold 112 = .ok (.invokevirtual 396, 3) := by decide +kernel
theorem dX11_isTold_115 : decode cX11_isTold 115 = .ok (.ireturn, 1) := by decide +kernel
theorem dX11_isTold_116 : decode cX11_isTold 116 = .ok (.aload_n 0, 1) := by decide +kernel
theorem dX11_isTold_117 : decode cX11_isTold 117 = .ok (.iconst 1, 1) := by decide +kernel
theorem dX11_isTold_118 : decode cX11_isTold 118 = .ok (.iload_n 1, 1) := by decide +kernel
theorem dX11_isTold_119 : decode cX11_isTold 119 = .ok (.invokevirtual 390, 3) := by decide +kernel
theorem dX11_isTold_122 : decode cX11_isTold 122 = .ok (.ireturn, 1) := by decide +kernel
theorem dX11_isTold_123 : decode cX11_isTold 123 = .ok (.aload_n 0, 1) := by decide +kernel
theorem dX11_isTold_124 : decode cX11_isTold 124 = .ok (.iload_n 1, 1) := by decide +kernel
theorem dX11_isTold_125 : decode cX11_isTold 125 = .ok (.bipush 12, 2) := by decide +kernel
theorem dX11_isTold_127 : decode cX11_isTold 127 = .ok (.ishr, 1) := by decide +kernel
theorem dX11_isTold_128 : decode cX11_isTold 128 = .ok (.bipush 6, 2) := by decide +kernel
theorem dX11_isTold_130 : decode cX11_isTold 130 = .ok (.if_icmp .ne 8, 3) := by decide +kernel
theorem dX11_isTold_133 : decode cX11_isTold 133 = .ok (.bipush 8, 2) := by decide +kernel
theorem dX11_isTold_135 : decode cX11_isTold 135 = .ok (.goto 5, 3) := by decide +kernel
theorem dX11_isTold_138 : decode cX11_isTold 138 = .ok (.bipush 9, 2) := by decide +kernel
theorem dX11_isTold_140 : decode cX11_isTold 140 = .ok (.iload_n 1, 1) := by decide +kernel
theorem dX11_isTold_141 : decode cX11_isTold 141 = .ok (.invokevirtual 399, 3) := by decide +kernel
theorem dX11_isTold_144 : decode cX11_isTold 144 = .ok (.aload_n 0, 1) := by decide +kernel
theorem dX11_isTold_145 : decode cX11_isTold 145 = .ok (.invokevirtual 381, 3) := by decide +kernel
theorem dX11_isTold_148 : decode cX11_isTold 148 = .ok (.aload_n 0, 1) := by decide +kernel
theorem dX11_isTold_149 : decode cX11_isTold 149 = .ok (.iload_n 1, 1) := by decide +kernel
theorem dX11_isTold_150 : decode cX11_isTold 150 = .ok (.bipush 6, 2) := by decide +kernel
theorem dX11_isTold_152 : decode cX11_isTold 152 = .ok (.invokestatic 154, 3) := by decide +kernel
theorem dX11_isTold_155 : decode cX11_isTold 155 = .ok (.invokevirtual 384, 3) := by decide +kernel
theorem dX11_isTold_158 : decode cX11_isTold 158 = .ok (.iconst 1, 1) := by decide +kernel
theorem dX11_isTold_159 : decode cX11_isTold 159 = .ok (.ireturn, 1) := by decide +kernel
theorem dX11_isTold_160 : decode cX11_isTold 160 = .ok (.aload_n 0, 1) := by decide +kernel
theorem dX11_isTold_161 : decode cX11_isTold 161 = .ok (.iconst 4, 1) := by decide +kernel
theorem dX11_isTold_162 : decode cX11_isTold 162 = .ok (.iload_n 1, 1) := by decide +kernel
theorem dX11_isTold_163 : decode cX11_isTold 163 = .ok (.invokevirtual 393, 3) := by decide +kernel
theorem dX11_isTold_166 : decode cX11_isTold 166 = .ok (.iconst 1, 1) := by decide +kernel
theorem dX11_isTold_167 : decode cX11_isTold 167 = .ok (.ireturn, 1) := by decide +kernel
theorem dX11_isTold_168 : decode cX11_isTold 168 = .ok (.aload_n 0, 1) := by decide +kernel
theorem dX11_isTold_169 : decode cX11_isTold 169 = .ok (.bipush 7, 2) := by decide +kernel
theorem dX11_isTold_171 : decode cX11_isTold 171 = .ok (.iload_n 1, 1) := by decide +kernel
theorem dX11_isTold_172 : decode cX11_isTold 172 = .ok (.invokevirtual 393, 3) := by decide +kernel
theorem dX11_isTold_175 : decode cX11_isTold 175 = .ok (.iconst 1, 1) := by decide +kernel
theorem dX11_isTold_176 : decode cX11_isTold 176 = .ok (.ireturn, 1) := by decide +kernel
theorem dX11_isTold_177 : decode cX11_isTold 177 = .ok (.aload_n 0, 1) := by decide +kernel
theorem dX11_isTold_178 : decode cX11_isTold 178 = .ok (.iconst 5, 1) := by decide +kernel
theorem dX11_isTold_179 : decode cX11_isTold 179 = .ok (.iload_n 1, 1) := by decide +kernel
theorem dX11_isTold_180 : decode cX11_isTold 180 = .ok (.invokevirtual 393, 3) := by decide +kernel
theorem dX11_isTold_183 : decode cX11_isTold 183 = .ok (.iconst 1, 1) := by decide +kernel
theorem dX11_isTold_184 : decode cX11_isTold 184 = .ok (.ireturn, 1) := by decide +kernel
theorem dX11_isTold_185 : decode cX11_isTold 185 = .ok (.aload_n 0, 1) := by decide +kernel
theorem dX11_isTold_186 : decode cX11_isTold 186 = .ok (.iload_n 1, 1) := by decide +kernel
theorem dX11_isTold_187 : decode cX11_isTold 187 = .ok (.invokevirtual 402, 3) := by decide +kernel
theorem dX11_isTold_190 : decode cX11_isTold 190 = .ok (.ireturn, 1) := by decide +kernel
theorem dX11_isBranch_0 : decode cX11_isBranch 0 = .ok (.iload_n 1, 1) := by decide +kernel
theorem dX11_isBranch_1 : decode cX11_isBranch 1 = .ok (.bipush 9, 2) := by decide +kernel
theorem dX11_isBranch_3 : decode cX11_isBranch 3 = .ok (.ishr, 1) := by decide +kernel
theorem dX11_isBranch_4 : decode cX11_isBranch 4 = .ok (.bipush 7, 2) := by decide +kernel
theorem dX11_isBranch_6 : decode cX11_isBranch 6 = .ok (.iand, 1) := by decide +kernel
theorem dX11_isBranch_7 : decode cX11_isBranch 7 = .ok (.ifCond .ne 5, 3) := by decide +kernel
theorem dX11_isBranch_10 : decode cX11_isBranch 10 = .ok (.iconst 0, 1) := by decide +kernel
theorem dX11_isBranch_11 : decode cX11_isBranch 11 = .ok (.ireturn, 1) := by decide +kernel
theorem dX11_isBranch_12 : decode cX11_isBranch 12 = .ok (.aload_n 0, 1) := by decide +kernel
theorem dX11_isBranch_13 : decode cX11_isBranch 13 = .ok (.bipush 22, 2) := by decide +kernel
theorem dX11_isBranch_15 : decode cX11_isBranch 15 = .ok (.iload_n 1, 1) := by decide +kernel
theorem dX11_isBranch_16 : decode cX11_isBranch 16 = .ok (.bipush 9, 2) := by decide +kernel
theorem dX11_isBranch_18 : decode cX11_isBranch 18 = .ok (.ishr, 1) := by decide +kernel
theorem dX11_isBranch_19 : decode cX11_isBranch 19 = .ok (.bipush 7, 2) := by decide +kernel
theorem dX11_isBranch_21 : decode cX11_isBranch 21 = .ok (.iand, 1) := by decide +kernel
theorem dX11_isBranch_22 : decode cX11_isBranch 22 = .ok (.iadd, 1) := by decide +kernel
theorem dX11_isBranch_23 : decode cX11_isBranch 23 = .ok (.invokevirtual 372, 3) := by decide +kernel
theorem dX11_isBranch_26 : decode cX11_isBranch 26 = .ok (.aload_n 0, 1) := by decide +kernel
theorem dX11_isBranch_27 : decode cX11_isBranch 27 = .ok (.bipush 32, 2) := by decide +kernel
theorem dX11_isBranch_29 : decode cX11_isBranch 29 = .ok (.invokevirtual 366, 3) := by decide +kernel
theorem dX11_isBranch_32 : decode cX11_isBranch 32 = .ok (.aload_n 0, 1) := by decide +kernel
theorem dX11_isBranch_33 : decode cX11_isBranch 33 = .ok (.iload_n 1, 1) := by decide +kernel
theorem dX11_isBranch_34 : decode cX11_isBranch 34 = .ok (.bipush 9, 2) := by decide +kernel
theorem dX11_isBranch_36 : decode cX11_isBranch 36 = .ok (.invokestatic 154, 3) := by decide +kernel
theorem dX11_isBranch_39 : decode cX11_isBranch 39 = .ok (.invokevirtual 384, 3) := by decide +kernel
theorem dX11_isBranch_42 : decode cX11_isBranch 42 = .ok (.iconst 1, 1) := by decide +kernel
theorem dX11_isBranch_43 : decode cX11_isBranch 43 = .ok (.ireturn, 1) := by decide +kernel
theorem dX11_isThree_0 : decode cX11_isThree 0 = .ok (.iload_n 2, 1) := by decide +kernel
theorem dX11_isThree_1 : decode cX11_isThree 1 = .ok (.iconst 5, 1) := by decide +kernel
theorem dX11_isThree_2 : decode cX11_isThree 2 = .ok (.ishr, 1) := by decide +kernel
theorem dX11_isThree_3 : decode cX11_isThree 3 = .ok (.iconst 1, 1) := by decide +kernel
theorem dX11_isThree_4 : decode cX11_isThree 4 = .ok (.iand, 1) := by decide +kernel
theorem dX11_isThree_5 : decode cX11_isThree 5 = .ok (.iconst 1, 1) := by decide +kernel
theorem dX11_isThree_6 : decode cX11_isThree 6 = .ok (.if_icmp .ne 7, 3) := by decide +kernel
theorem dX11_isThree_9 : decode cX11_isThree 9 = .ok (.iconst 1, 1) := by decide +kernel
theorem dX11_isThree_10 : decode cX11_isThree 10 = .ok (.goto 4, 3) := by decide +kernel
theorem dX11_isThree_13 : decode cX11_isThree 13 = .ok (.iconst 0, 1) := by decide +kernel
theorem dX11_isThree_14 : decode cX11_isThree 14 = .ok (.istore_n 3, 1) := by decide +kernel
theorem dX11_isThree_15 : decode cX11_isThree 15 = .ok (.iload_n 3, 1) := by decide +kernel
theorem dX11_isThree_16 : decode cX11_isThree 16 = .ok (.ifCond .ne 13, 3) := by decide +kernel
theorem dX11_isThree_19 : decode cX11_isThree 19 = .ok (.iload_n 2, 1) := by decide +kernel
theorem dX11_isThree_20 : decode cX11_isThree 20 = .ok (.iconst 3, 1) := by decide +kernel
theorem dX11_isThree_21 : decode cX11_isThree 21 = .ok (.ishr, 1) := by decide +kernel
theorem dX11_isThree_22 : decode cX11_isThree 22 = .ok (.iconst 3, 1) := by decide +kernel
theorem dX11_isThree_23 : decode cX11_isThree 23 = .ok (.iand, 1) := by decide +kernel
theorem dX11_isThree_24 : decode cX11_isThree 24 = .ok (.ifCond .eq 5, 3) := by decide +kernel
theorem dX11_isThree_27 : decode cX11_isThree 27 = .ok (.iconst 0, 1) := by decide +kernel
theorem dX11_isThree_28 : decode cX11_isThree 28 = .ok (.ireturn, 1) := by decide +kernel
theorem dX11_isThree_29 : decode cX11_isThree 29 = .ok (.aload_n 0, 1) := by decide +kernel
theorem dX11_isThree_30 : decode cX11_isThree 30 = .ok (.iload_n 1, 1) := by decide +kernel
theorem dX11_isThree_31 : decode cX11_isThree 31 = .ok (.iload_n 2, 1) := by decide +kernel
theorem dX11_isThree_32 : decode cX11_isThree 32 = .ok (.invokevirtual 399, 3) := by decide +kernel
theorem dX11_isThree_35 : decode cX11_isThree 35 = .ok (.aload_n 0, 1) := by decide +kernel
theorem dX11_isThree_36 : decode cX11_isThree 36 = .ok (.invokevirtual 381, 3) := by decide +kernel
theorem dX11_isThree_39 : decode cX11_isThree 39 = .ok (.iload_n 3, 1) := by decide +kernel
theorem dX11_isThree_40 : decode cX11_isThree 40 = .ok (.ifCond .eq 15, 3) := by decide +kernel
theorem dX11_isThree_43 : decode cX11_isThree 43 = .ok (.aload_n 0, 1) := by decide +kernel
theorem dX11_isThree_44 : decode cX11_isThree 44 = .ok (.iload_n 2, 1) := by decide +kernel
theorem dX11_isThree_45 : decode cX11_isThree 45 = .ok (.iconst 5, 1) := by decide +kernel
theorem dX11_isThree_46 : decode cX11_isThree 46 = .ok (.invokestatic 154, 3) := by decide +kernel
theorem dX11_isThree_49 : decode cX11_isThree 49 = .ok (.invokevirtual 384, 3) := by decide +kernel
theorem dX11_isThree_52 : decode cX11_isThree 52 = .ok (.goto 11, 3) := by decide +kernel
theorem dX11_isThree_55 : decode cX11_isThree 55 = .ok (.aload_n 0, 1) := by decide +kernel
theorem dX11_isThree_56 : decode cX11_isThree 56 = .ok (.iload_n 2, 1) := by decide +kernel
theorem dX11_isThree_57 : decode cX11_isThree 57 = .ok (.bipush 7, 2) := by decide +kernel
theorem dX11_isThree_59 : decode cX11_isThree 59 = .ok (.iand, 1) := by decide +kernel
theorem dX11_isThree_60 : decode cX11_isThree 60 = .ok (.invokevirtual 378, 3) := by decide +kernel
theorem dX11_isThree_63 : decode cX11_isThree 63 = .ok (.iconst 1, 1) := by decide +kernel
theorem dX11_isThree_64 : decode cX11_isThree 64 = .ok (.ireturn, 1) := by decide +kernel
theorem dX11_isJump_0 : decode cX11_isJump 0 = .ok (.iload_n 1, 1) := by decide +kernel
theorem dX11_isJump_1 : decode cX11_isJump 1 = .ok (.bipush 11, 2) := by decide +kernel
theorem dX11_isJump_3 : decode cX11_isJump 3 = .ok (.ishr, 1) := by decide +kernel
theorem dX11_isJump_4 : decode cX11_isJump 4 = .ok (.iconst 1, 1) := by decide +kernel
theorem dX11_isJump_5 : decode cX11_isJump 5 = .ok (.iand, 1) := by decide +kernel
theorem dX11_isJump_6 : decode cX11_isJump 6 = .ok (.iconst 1, 1) := by decide +kernel
theorem dX11_isJump_7 : decode cX11_isJump 7 = .ok (.if_icmp .ne 7, 3) := by decide +kernel
theorem dX11_isJump_10 : decode cX11_isJump 10 = .ok (.iconst 1, 1) := by decide +kernel
theorem dX11_isJump_11 : decode cX11_isJump 11 = .ok (.goto 4, 3) := by decide +kernel
theorem dX11_isJump_14 : decode cX11_isJump 14 = .ok (.iconst 0, 1) := by decide +kernel
theorem dX11_isJump_15 : decode cX11_isJump 15 = .ok (.istore_n 2, 1) := by decide +kernel
theorem dX11_isJump_16 : decode cX11_isJump 16 = .ok (.iload_n 2, 1) := by decide +kernel
theorem dX11_isJump_17 : decode cX11_isJump 17 = .ok (.ifCond .ne 13, 3) := by decide +kernel
theorem dX11_isJump_20 : decode cX11_isJump 20 = .ok (.iload_n 1, 1) := by decide +kernel
theorem dX11_isJump_21 : decode cX11_isJump 21 = .ok (.sipush 3647, 3) := by decide +kernel
theorem dX11_isJump_24 : decode cX11_isJump 24 = .ok (.iand, 1) := by decide +kernel
theorem dX11_isJump_25 : decode cX11_isJump 25 = .ok (.ifCond .eq 5, 3) := by decide +kernel
theorem dX11_isJump_28 : decode cX11_isJump 28 = .ok (.iconst 0, 1) := by decide +kernel
theorem dX11_isJump_29 : decode cX11_isJump 29 = .ok (.ireturn, 1) := by decide +kernel
theorem dX11_isJump_30 : decode cX11_isJump 30 = .ok (.aload_n 0, 1) := by decide +kernel
theorem dX11_isJump_31 : decode cX11_isJump 31 = .ok (.iload_n 2, 1) := by decide +kernel
theorem dX11_isJump_32 : decode cX11_isJump 32 = .ok (.ifCond .eq 8, 3) := by decide +kernel
theorem dX11_isJump_35 : decode cX11_isJump 35 = .ok (.bipush 11, 2) := by decide +kernel
theorem dX11_isJump_37 : decode cX11_isJump 37 = .ok (.goto 5, 3) := by decide +kernel
theorem dX11_isJump_40 : decode cX11_isJump 40 = .ok (.bipush 12, 2) := by decide +kernel
theorem dX11_isJump_42 : decode cX11_isJump 42 = .ok (.invokevirtual 372, 3) := by decide +kernel
theorem dX11_isJump_45 : decode cX11_isJump 45 = .ok (.aload_n 0, 1) := by decide +kernel
theorem dX11_isJump_46 : decode cX11_isJump 46 = .ok (.bipush 32, 2) := by decide +kernel
theorem dX11_isJump_48 : decode cX11_isJump 48 = .ok (.invokevirtual 366, 3) := by decide +kernel
theorem dX11_isJump_51 : decode cX11_isJump 51 = .ok (.iload_n 2, 1) := by decide +kernel
theorem dX11_isJump_52 : decode cX11_isJump 52 = .ok (.ifCond .eq 16, 3) := by decide +kernel
theorem dX11_isJump_55 : decode cX11_isJump 55 = .ok (.aload_n 0, 1) := by decide +kernel
theorem dX11_isJump_56 : decode cX11_isJump 56 = .ok (.iload_n 1, 1) := by decide +kernel
theorem dX11_isJump_57 : decode cX11_isJump 57 = .ok (.bipush 11, 2) := by decide +kernel
theorem dX11_isJump_59 : decode cX11_isJump 59 = .ok (.invokestatic 154, 3) := by decide +kernel
theorem dX11_isJump_62 : decode cX11_isJump 62 = .ok (.invokevirtual 384, 3) := by decide +kernel
theorem dX11_isJump_65 : decode cX11_isJump 65 = .ok (.goto 14, 3) := by decide +kernel
theorem dX11_isJump_68 : decode cX11_isJump 68 = .ok (.aload_n 0, 1) := by decide +kernel
theorem dX11_isJump_69 : decode cX11_isJump 69 = .ok (.iload_n 1, 1) := by decide +kernel
theorem dX11_isJump_70 : decode cX11_isJump 70 = .ok (.bipush 6, 2) := by decide +kernel
theorem dX11_isJump_72 : decode cX11_isJump 72 = .ok (.ishr, 1) := by decide +kernel
theorem dX11_isJump_73 : decode cX11_isJump 73 = .ok (.bipush 7, 2) := by decide +kernel
theorem dX11_isJump_75 : decode cX11_isJump 75 = .ok (.iand, 1) := by decide +kernel
theorem dX11_isJump_76 : decode cX11_isJump 76 = .ok (.invokevirtual 378, 3) := by decide +kernel
theorem dX11_isJump_79 : decode cX11_isJump 79 = .ok (.iconst 1, 1) := by decide +kernel
theorem dX11_isJump_80 : decode cX11_isJump 80 = .ok (.ireturn, 1) := by decide +kernel
theorem dX11_isRest_0 : decode cX11_isRest 0 = .ok (.iload_n 1, 1) := by decide +kernel
theorem dX11_isRest_1 : decode cX11_isRest 1 = .ok (.bipush 12, 2) := by decide +kernel
theorem dX11_isRest_3 : decode cX11_isRest 3 = .ok (.ishr, 1) := by decide +kernel
theorem dX11_isRest_4 : decode cX11_isRest 4 = .ok (.istore_n 2, 1) := by decide +kernel
theorem dX11_isRest_5 : decode cX11_isRest 5 = .ok (.iload_n 2, 1) := by decide +kernel
theorem dX11_isRest_6 : decode cX11_isRest 6 = .ok (.bipush 8, 2) := by decide +kernel
theorem dX11_isRest_8 : decode cX11_isRest 8 = .ok (.if_icmp .ne 17, 3) := by decide +kernel
theorem dX11_isRest_11 : decode cX11_isRest 11 = .ok (.iload_n 1, 1) := by decide +kernel
theorem dX11_isRest_12 : decode cX11_isRest 12 = .ok (.ldc 88, 2) := by decide +kernel
theorem dX11_isRest_14 : decode cX11_isRest 14 = .ok (.if_icmp .ne 11, 3) := by decide +kernel
theorem dX11_isRest_17 : decode cX11_isRest 17 = .ok (.aload_n 0, 1) := by decide +kernel
theorem dX11_isRest_18 : decode cX11_isRest 18 = .ok (.bipush 15, 2) := by decide +kernel
theorem dX11_isRest_20 : decode cX11_isRest 20 = .ok (.invokevirtual 372, 3) := by decide +kernel
theorem dX11_isRest_23 : decode cX11_isRest 23 = .ok (.iconst 1, 1) := by decide +kernel
theorem dX11_isRest_24 : decode cX11_isRest 24 = .ok (.ireturn, 1) := by decide +kernel
theorem dX11_isRest_25 : decode cX11_isRest 25 = .ok (.iload_n 2, 1) := by decide +kernel
theorem dX11_isRest_26 : decode cX11_isRest 26 = .ok (.bipush 9, 2) := by decide +kernel
theorem dX11_isRest_28 : decode cX11_isRest 28 = .ok (.if_icmp .ne 20, 3) := by decide +kernel
theorem dX11_isRest_31 : decode cX11_isRest 31 = .ok (.iload_n 1, 1) := by decide +kernel
theorem dX11_isRest_32 : decode cX11_isRest 32 = .ok (.bipush 63, 2) := by decide +kernel
theorem dX11_isRest_34 : decode cX11_isRest 34 = .ok (.iand, 1) := by decide +kernel
theorem dX11_isRest_35 : decode cX11_isRest 35 = .ok (.bipush 63, 2) := by decide +kernel
theorem dX11_isRest_37 : decode cX11_isRest 37 = .ok (.if_icmp .ne 11, 3) := by decide +kernel
theorem dX11_isRest_40 : decode cX11_isRest 40 = .ok (.aload_n 0, 1) := by decide +kernel
theorem dX11_isRest_41 : decode cX11_isRest 41 = .ok (.iconst 2, 1) := by decide +kernel
theorem dX11_isRest_42 : decode cX11_isRest 42 = .ok (.iload_n 1, 1) := by decide +kernel
theorem dX11_isRest_43 : decode cX11_isRest 43 = .ok (.invokevirtual 399, 3) := by decide +kernel
theorem dX11_isRest_46 : decode cX11_isRest 46 = .ok (.iconst 1, 1) := by decide +kernel
theorem dX11_isRest_47 : decode cX11_isRest 47 = .ok (.ireturn, 1) := by decide +kernel
theorem dX11_isRest_48 : decode cX11_isRest 48 = .ok (.iload_n 2, 1) := by decide +kernel
theorem dX11_isRest_49 : decode cX11_isRest 49 = .ok (.bipush 12, 2) := by decide +kernel
theorem dX11_isRest_51 : decode cX11_isRest 51 = .ok (.if_icmp .ne 57, 3) := by decide +kernel
theorem dX11_isRest_54 : decode cX11_isRest 54 = .ok (.iload_n 1, 1) := by decide +kernel
theorem dX11_isRest_55 : decode cX11_isRest 55 = .ok (.sipush 3647, 3) := by decide +kernel
theorem dX11_isRest_58 : decode cX11_isRest 58 = .ok (.iand, 1) := by decide +kernel
theorem dX11_isRest_59 : decode cX11_isRest 59 = .ok (.ifCond .ne 49, 3) := by decide +kernel
theorem dX11_isRest_62 : decode cX11_isRest 62 = .ok (.aload_n 0, 1) := by decide +kernel
theorem dX11_isRest_63 : decode cX11_isRest 63 = .ok (.iload_n 1, 1) := by decide +kernel
theorem dX11_isRest_64 : decode cX11_isRest 64 = .ok (.ldc_w 362, 3) := by decide +kernel
theorem dX11_isRest_67 : decode cX11_isRest 67 = .ok (.if_icmp .ne 8, 3) := by decide +kernel
theorem dX11_isRest_70 : decode cX11_isRest 70 = .ok (.bipush 14, 2) := by decide +kernel
theorem dX11_isRest_72 : decode cX11_isRest 72 = .ok (.goto 5, 3) := by decide +kernel
theorem dX11_isRest_75 : decode cX11_isRest 75 = .ok (.bipush 10, 2) := by decide +kernel
theorem dX11_isRest_77 : decode cX11_isRest 77 = .ok (.invokevirtual 372, 3) := by decide +kernel
theorem dX11_isRest_80 : decode cX11_isRest 80 = .ok (.iload_n 1, 1) := by decide +kernel
theorem dX11_isRest_81 : decode cX11_isRest 81 = .ok (.ldc_w 362, 3) := by decide +kernel
theorem dX11_isRest_84 : decode cX11_isRest 84 = .ok (.if_icmp .ne 5, 3) := by decide +kernel
theorem dX11_isRest_87 : decode cX11_isRest 87 = .ok (.iconst 1, 1) := by decide +kernel
theorem dX11_isRest_88 : decode cX11_isRest 88 = .ok (.ireturn, 1) := by decide +kernel
theorem dX11_isRest_89 : decode cX11_isRest 89 = .ok (.aload_n 0, 1) := by decide +kernel
theorem dX11_isRest_90 : decode cX11_isRest 90 = .ok (.bipush 32, 2) := by decide +kernel
theorem dX11_isRest_92 : decode cX11_isRest 92 = .ok (.invokevirtual 366, 3) := by decide +kernel
theorem dX11_isRest_95 : decode cX11_isRest 95 = .ok (.aload_n 0, 1) := by decide +kernel
theorem dX11_isRest_96 : decode cX11_isRest 96 = .ok (.iload_n 1, 1) := by decide +kernel
theorem dX11_isRest_97 : decode cX11_isRest 97 = .ok (.bipush 6, 2) := by decide +kernel
theorem dX11_isRest_99 : decode cX11_isRest 99 = .ok (.ishr, 1) := by decide +kernel
theorem dX11_isRest_100 : decode cX11_isRest 100 = .ok (.bipush 7, 2) := by decide +kernel
theorem dX11_isRest_102 : decode cX11_isRest 102 = .ok (.iand, 1) := by decide +kernel
theorem dX11_isRest_103 : decode cX11_isRest 103 = .ok (.invokevirtual 378, 3) := by decide +kernel
theorem dX11_isRest_106 : decode cX11_isRest 106 = .ok (.iconst 1, 1) := by decide +kernel
theorem dX11_isRest_107 : decode cX11_isRest 107 = .ok (.ireturn, 1) := by decide +kernel
theorem dX11_isRest_108 : decode cX11_isRest 108 = .ok (.iload_n 2, 1) := by decide +kernel
theorem dX11_isRest_109 : decode cX11_isRest 109 = .ok (.bipush 15, 2) := by decide +kernel
theorem dX11_isRest_111 : decode cX11_isRest 111 = .ok (.if_icmp .ne 11, 3) := by decide +kernel
theorem dX11_isRest_114 : decode cX11_isRest 114 = .ok (.iload_n 1, 1) := by decide +kernel
theorem dX11_isRest_115 : decode cX11_isRest 115 = .ok (.sipush 3840, 3) := by decide +kernel
theorem dX11_isRest_118 : decode cX11_isRest 118 = .ok (.iand, 1) := by decide +kernel
theorem dX11_isRest_119 : decode cX11_isRest 119 = .ok (.ifCond .eq 5, 3) := by decide +kernel
theorem dX11_isRest_122 : decode cX11_isRest 122 = .ok (.iconst 0, 1) := by decide +kernel
theorem dX11_isRest_123 : decode cX11_isRest 123 = .ok (.ireturn, 1) := by decide +kernel
theorem dX11_isRest_124 : decode cX11_isRest 124 = .ok (.iload_n 1, 1) := by decide +kernel
theorem dX11_isRest_125 : decode cX11_isRest 125 = .ok (.sipush 255, 3) := by decide +kernel
theorem dX11_isRest_128 : decode cX11_isRest 128 = .ok (.iand, 1) := by decide +kernel
theorem dX11_isRest_129 : decode cX11_isRest 129 = .ok (.istore_n 3, 1) := by decide +kernel
theorem dX11_isRest_130 : decode cX11_isRest 130 = .ok (.iload_n 3, 1) := by decide +kernel
theorem dX11_isRest_131 : decode cX11_isRest 131 = .ok (.bipush 32, 2) := by decide +kernel
theorem dX11_isRest_133 : decode cX11_isRest 133 = .ok (.if_icmp .lt 13, 3) := by decide +kernel
theorem dX11_isRest_136 : decode cX11_isRest 136 = .ok (.iload_n 3, 1) := by decide +kernel
theorem dX11_isRest_137 : decode cX11_isRest 137 = .ok (.bipush 37, 2) := by decide +kernel
theorem dX11_isRest_139 : decode cX11_isRest 139 = .ok (.if_icmp .gt 7, 3) := by decide +kernel
theorem dX11_isRest_142 : decode cX11_isRest 142 = .ok (.iconst 1, 1) := by decide +kernel
theorem dX11_isRest_143 : decode cX11_isRest 143 = .ok (.goto 4, 3) := by decide +kernel
theorem dX11_isRest_146 : decode cX11_isRest 146 = .ok (.iconst 0, 1) := by decide +kernel
theorem dX11_isRest_147 : decode cX11_isRest 147 = .ok (.istore 4, 2) := by decide +kernel
theorem dX11_isRest_149 : decode cX11_isRest 149 = .ok (.aload_n 0, 1) := by decide +kernel
theorem dX11_isRest_150 : decode cX11_isRest 150 = .ok (.iload 4, 2) := by decide +kernel
theorem dX11_isRest_152 : decode cX11_isRest 152 = .ok (.ifCond .eq 13, 3) := by decide +kernel
theorem dX11_isRest_155 : decode cX11_isRest 155 = .ok (.bipush 16, 2) := by decide +kernel
theorem dX11_isRest_157 : decode cX11_isRest 157 = .ok (.iload_n 3, 1) := by decide +kernel
theorem dX11_isRest_158 : decode cX11_isRest 158 = .ok (.iadd, 1) := by decide +kernel
theorem dX11_isRest_159 : decode cX11_isRest 159 = .ok (.bipush 32, 2) := by decide +kernel
theorem dX11_isRest_161 : decode cX11_isRest 161 = .ok (.isub, 1) := by decide +kernel
theorem dX11_isRest_162 : decode cX11_isRest 162 = .ok (.goto 5, 3) := by decide +kernel
theorem dX11_isRest_165 : decode cX11_isRest 165 = .ok (.bipush 13, 2) := by decide +kernel
theorem dX11_isRest_167 : decode cX11_isRest 167 = .ok (.invokevirtual 372, 3) := by decide +kernel
theorem dX11_isRest_170 : decode cX11_isRest 170 = .ok (.iload 4, 2) := by decide +kernel
theorem dX11_isRest_172 : decode cX11_isRest 172 = .ok (.ifCond .eq 5, 3) := by decide +kernel
theorem dX11_isRest_175 : decode cX11_isRest 175 = .ok (.iconst 1, 1) := by decide +kernel
theorem dX11_isRest_176 : decode cX11_isRest 176 = .ok (.ireturn, 1) := by decide +kernel
theorem dX11_isRest_177 : decode cX11_isRest 177 = .ok (.aload_n 0, 1) := by decide +kernel
theorem dX11_isRest_178 : decode cX11_isRest 178 = .ok (.bipush 32, 2) := by decide +kernel
theorem dX11_isRest_180 : decode cX11_isRest 180 = .ok (.invokevirtual 366, 3) := by decide +kernel
theorem dX11_isRest_183 : decode cX11_isRest 183 = .ok (.aload_n 0, 1) := by decide +kernel
theorem dX11_isRest_184 : decode cX11_isRest 184 = .ok (.iload_n 3, 1) := by decide +kernel
theorem dX11_isRest_185 : decode cX11_isRest 185 = .ok (.iconst 2, 1) := by decide +kernel
theorem dX11_isRest_186 : decode cX11_isRest 186 = .ok (.invokevirtual 375, 3) := by decide +kernel
theorem dX11_isRest_189 : decode cX11_isRest 189 = .ok (.iconst 1, 1) := by decide +kernel
theorem dX11_isRest_190 : decode cX11_isRest 190 = .ok (.ireturn, 1) := by decide +kernel
theorem dX11_written_0 : decode cX11_written 0 = .ok (.aload_n 0, 1) := by decide +kernel
theorem dX11_written_1 : decode cX11_written 1 = .ok (.iconst 0, 1) := by decide +kernel
theorem dX11_written_2 : decode cX11_written 2 = .ok (.putfield 60, 3) := by decide +kernel
theorem dX11_written_5 : decode cX11_written 5 = .ok (.iload_n 1, 1) := by decide +kernel
theorem dX11_written_6 : decode cX11_written 6 = .ok (.ifCond .lt 11, 3) := by decide +kernel
theorem dX11_written_9 : decode cX11_written 9 = .ok (.iload_n 1, 1) := by decide +kernel
theorem dX11_written_10 : decode cX11_written 10 = .ok (.aload_n 0, 1) := by decide +kernel
theorem dX11_written_11 : decode cX11_written 11 = .ok (.getfield 363, 3) := by decide +kernel
theorem dX11_written_14 : decode cX11_written 14 = .ok (.if_icmp .lt 7, 3) := by decide +kernel
theorem dX11_written_17 : decode cX11_written 17 = .ok (.iconst (-1), 1) := by decide +kernel
theorem dX11_written_18 : decode cX11_written 18 = .ok (.goto 9, 3) := by decide +kernel
theorem dX11_written_21 : decode cX11_written 21 = .ok (.aload_n 0, 1) := by decide +kernel
theorem dX11_written_22 : decode cX11_written 22 = .ok (.getfield 48, 3) := by decide +kernel
theorem dX11_written_25 : decode cX11_written 25 = .ok (.iload_n 1, 1) := by decide +kernel
theorem dX11_written_26 : decode cX11_written 26 = .ok (.iaload, 1) := by decide +kernel
theorem dX11_written_27 : decode cX11_written 27 = .ok (.ireturn, 1) := by decide +kernel
theorem dX11_again_0 : decode cX11_again 0 = .ok (.aload_n 0, 1) := by decide +kernel
theorem dX11_again_1 : decode cX11_again 1 = .ok (.iconst 0, 1) := by decide +kernel
theorem dX11_again_2 : decode cX11_again 2 = .ok (.putfield 60, 3) := by decide +kernel
theorem dX11_again_5 : decode cX11_again 5 = .ok (.aload_n 0, 1) := by decide +kernel
theorem dX11_again_6 : decode cX11_again 6 = .ok (.getfield 184, 3) := by decide +kernel
theorem dX11_again_9 : decode cX11_again 9 = .ok (.aload_n 0, 1) := by decide +kernel
theorem dX11_again_10 : decode cX11_again 10 = .ok (.getfield 363, 3) := by decide +kernel
theorem dX11_again_13 : decode cX11_again 13 = .ok (.iadd, 1) := by decide +kernel
theorem dX11_again_14 : decode cX11_again 14 = .ok (.iconst 1, 1) := by decide +kernel
theorem dX11_again_15 : decode cX11_again 15 = .ok (.iadd, 1) := by decide +kernel
theorem dX11_again_16 : decode cX11_again 16 = .ok (.sipush 4000, 3) := by decide +kernel
theorem dX11_again_19 : decode cX11_again 19 = .ok (.if_icmp .le 5, 3) := by decide +kernel
theorem dX11_again_22 : decode cX11_again 22 = .ok (.iconst (-1), 1) := by decide +kernel
theorem dX11_again_23 : decode cX11_again 23 = .ok (.ireturn, 1) := by decide +kernel
theorem dX11_again_24 : decode cX11_again 24 = .ok (.iconst 0, 1) := by decide +kernel
theorem dX11_again_25 : decode cX11_again 25 = .ok (.istore_n 1, 1) := by decide +kernel
theorem dX11_again_26 : decode cX11_again 26 = .ok (.iload_n 1, 1) := by decide +kernel
theorem dX11_again_27 : decode cX11_again 27 = .ok (.aload_n 0, 1) := by decide +kernel
theorem dX11_again_28 : decode cX11_again 28 = .ok (.getfield 363, 3) := by decide +kernel
theorem dX11_again_31 : decode cX11_again 31 = .ok (.if_icmp .ge 26, 3) := by decide +kernel
theorem dX11_again_34 : decode cX11_again 34 = .ok (.aload_n 0, 1) := by decide +kernel
theorem dX11_again_35 : decode cX11_again 35 = .ok (.getfield 23, 3) := by decide +kernel
theorem dX11_again_38 : decode cX11_again 38 = .ok (.aload_n 0, 1) := by decide +kernel
theorem dX11_again_39 : decode cX11_again 39 = .ok (.getfield 184, 3) := by decide +kernel
theorem dX11_again_42 : decode cX11_again 42 = .ok (.iload_n 1, 1) := by decide +kernel
theorem dX11_again_43 : decode cX11_again 43 = .ok (.iadd, 1) := by decide +kernel
theorem dX11_again_44 : decode cX11_again 44 = .ok (.aload_n 0, 1) := by decide +kernel
theorem dX11_again_45 : decode cX11_again 45 = .ok (.getfield 48, 3) := by decide +kernel
theorem dX11_again_48 : decode cX11_again 48 = .ok (.iload_n 1, 1) := by decide +kernel
theorem dX11_again_49 : decode cX11_again 49 = .ok (.iaload, 1) := by decide +kernel
theorem dX11_again_50 : decode cX11_again 50 = .ok (.iastore, 1) := by decide +kernel
theorem dX11_again_51 : decode cX11_again 51 = .ok (.iinc 1 1, 3) := by decide +kernel
theorem dX11_again_54 : decode cX11_again 54 = .ok (.goto (-28), 3) := by decide +kernel
theorem dX11_again_57 : decode cX11_again 57 = .ok (.aload_n 0, 1) := by decide +kernel
theorem dX11_again_58 : decode cX11_again 58 = .ok (.getfield 23, 3) := by decide +kernel
theorem dX11_again_61 : decode cX11_again 61 = .ok (.aload_n 0, 1) := by decide +kernel
theorem dX11_again_62 : decode cX11_again 62 = .ok (.getfield 184, 3) := by decide +kernel
theorem dX11_again_65 : decode cX11_again 65 = .ok (.aload_n 0, 1) := by decide +kernel
theorem dX11_again_66 : decode cX11_again 66 = .ok (.getfield 363, 3) := by decide +kernel
theorem dX11_again_69 : decode cX11_again 69 = .ok (.iadd, 1) := by decide +kernel
theorem dX11_again_70 : decode cX11_again 70 = .ok (.bipush 10, 2) := by decide +kernel
theorem dX11_again_72 : decode cX11_again 72 = .ok (.iastore, 1) := by decide +kernel
theorem dX11_again_73 : decode cX11_again 73 = .ok (.aload_n 0, 1) := by decide +kernel
theorem dX11_again_74 : decode cX11_again 74 = .ok (.dup, 1) := by decide +kernel
theorem dX11_again_75 : decode cX11_again 75 = .ok (.getfield 184, 3) := by decide +kernel
theorem dX11_again_78 : decode cX11_again 78 = .ok (.aload_n 0, 1) := by decide +kernel
theorem dX11_again_79 : decode cX11_again 79 = .ok (.getfield 363, 3) := by decide +kernel
theorem dX11_again_82 : decode cX11_again 82 = .ok (.iconst 1, 1) := by decide +kernel
theorem dX11_again_83 : decode cX11_again 83 = .ok (.iadd, 1) := by decide +kernel
theorem dX11_again_84 : decode cX11_again 84 = .ok (.iadd, 1) := by decide +kernel
theorem dX11_again_85 : decode cX11_again 85 = .ok (.putfield 184, 3) := by decide +kernel
theorem dX11_again_88 : decode cX11_again 88 = .ok (.aload_n 0, 1) := by decide +kernel
theorem dX11_again_89 : decode cX11_again 89 = .ok (.getfield 184, 3) := by decide +kernel
theorem dX11_again_92 : decode cX11_again 92 = .ok (.ireturn, 1) := by decide +kernel
theorem dX11_print_0 : decode cX11_print 0 = .ok (.aload_n 0, 1) := by decide +kernel
theorem dX11_print_1 : decode cX11_print 1 = .ok (.iconst 0, 1) := by decide +kernel
theorem dX11_print_2 : decode cX11_print 2 = .ok (.putfield 60, 3) := by decide +kernel
theorem dX11_print_5 : decode cX11_print 5 = .ok (.iload_n 1, 1) := by decide +kernel
theorem dX11_print_6 : decode cX11_print 6 = .ok (.ifCond .lt 11, 3) := by decide +kernel
theorem dX11_print_9 : decode cX11_print 9 = .ok (.iload_n 1, 1) := by decide +kernel
theorem dX11_print_10 : decode cX11_print 10 = .ok (.aload_n 0, 1) := by decide +kernel
theorem dX11_print_11 : decode cX11_print 11 = .ok (.getfield 107, 3) := by decide +kernel
theorem dX11_print_14 : decode cX11_print 14 = .ok (.if_icmp .lt 7, 3) := by decide +kernel
theorem dX11_print_17 : decode cX11_print 17 = .ok (.iconst (-1), 1) := by decide +kernel
theorem dX11_print_18 : decode cX11_print 18 = .ok (.goto 9, 3) := by decide +kernel
theorem dX11_print_21 : decode cX11_print 21 = .ok (.aload_n 0, 1) := by decide +kernel
theorem dX11_print_22 : decode cX11_print 22 = .ok (.getfield 20, 3) := by decide +kernel
theorem dX11_print_25 : decode cX11_print 25 = .ok (.iload_n 1, 1) := by decide +kernel
theorem dX11_print_26 : decode cX11_print 26 = .ok (.iaload, 1) := by decide +kernel
theorem dX11_print_27 : decode cX11_print 27 = .ok (.ireturn, 1) := by decide +kernel
