theorem dX8_nextLine_26 : decode cX8_nextLine 26 = .ok (.iconst 1, 1) := by decide +kernel
theorem dX8_nextLine_27 : decode cX8_nextLine 27 = .ok (.ireturn, 1) := by decide +kernel
theorem dX8_advance_0 : decode cX8_advance 0 = .ok (.aload_n 0, 1) := by decide +kernel
theorem dX8_advance_1 : decode cX8_advance 1 = .ok (.invokevirtual 24, 3) := by decide +kernel
theorem dX8_advance_4 : decode cX8_advance 4 = .ok (.aload_n 0, 1) := by decide +kernel
theorem dX8_advance_5 : decode cX8_advance 5 = .ok (.aload_n 0, 1) := by decide +kernel
theorem dX8_advance_6 : decode cX8_advance 6 = .ok (.getfield 15, 3) := by decide +kernel
theorem dX8_advance_9 : decode cX8_advance 9 = .ok (.putfield 27, 3) := by decide +kernel
theorem dX8_advance_12 : decode cX8_advance 12 = .ok (.aload_n 0, 1) := by decide +kernel
theorem dX8_advance_13 : decode cX8_advance 13 = .ok (.getfield 9, 3) := by decide +kernel
theorem dX8_advance_16 : decode cX8_advance 16 = .ok (.aload_n 0, 1) := by decide +kernel
theorem dX8_advance_17 : decode cX8_advance 17 = .ok (.getfield 15, 3) := by decide +kernel
theorem dX8_advance_20 : decode cX8_advance 20 = .ok (.invokevirtual 30, 3) := by decide +kernel
theorem dX8_advance_23 : decode cX8_advance 23 = .ok (.istore_n 1, 1) := by decide +kernel
theorem dX8_advance_24 : decode cX8_advance 24 = .ok (.iload_n 1, 1) := by decide +kernel
theorem dX8_advance_25 : decode cX8_advance 25 = .ok (.iconst (-1), 1) := by decide +kernel
theorem dX8_advance_26 : decode cX8_advance 26 = .ok (.if_icmp .eq 9, 3) := by decide +kernel
theorem dX8_advance_29 : decode cX8_advance 29 = .ok (.iload_n 1, 1) := by decide +kernel
theorem dX8_advance_30 : decode cX8_advance 30 = .ok (.bipush 10, 2) := by decide +kernel
theorem dX8_advance_32 : decode cX8_advance 32 = .ok (.if_icmp .ne 11, 3) := by decide +kernel
theorem dX8_advance_35 : decode cX8_advance 35 = .ok (.aload_n 0, 1) := by decide +kernel
theorem dX8_advance_36 : decode cX8_advance 36 = .ok (.iconst 0, 1) := by decide +kernel
theorem dX8_advance_37 : decode cX8_advance 37 = .ok (.putfield 34, 3) := by decide +kernel
theorem dX8_advance_40 : decode cX8_advance 40 = .ok (.goto 36, 3) := by decide +kernel
theorem dX8_advance_43 : decode cX8_advance 43 = .ok (.iload_n 1, 1) := by decide +kernel
theorem dX8_advance_44 : decode cX8_advance 44 = .ok (.bipush 34, 2) := by decide +kernel
theorem dX8_advance_46 : decode cX8_advance 46 = .ok (.if_icmp .ne 10, 3) := by decide +kernel
theorem dX8_advance_49 : decode cX8_advance 49 = .ok (.aload_n 0, 1) := by decide +kernel
theorem dX8_advance_50 : decode cX8_advance 50 = .ok (.invokevirtual 37, 3) := by decide +kernel
theorem dX8_advance_53 : decode cX8_advance 53 = .ok (.goto 23, 3) := by decide +kernel
theorem dX8_advance_56 : decode cX8_advance 56 = .ok (.iload_n 1, 1) := by decide +kernel
theorem dX8_advance_57 : decode cX8_advance 57 = .ok (.invokestatic 40, 3) := by decide +kernel
theorem dX8_advance_60 : decode cX8_advance 60 = .ok (.ifCond .eq 10, 3) := by decide +kernel
theorem dX8_advance_63 : decode cX8_advance 63 = .ok (.aload_n 0, 1) := by decide +kernel
theorem dX8_advance_64 : decode cX8_advance 64 = .ok (.invokevirtual 43, 3) := by decide +kernel
theorem dX8_advance_67 : decode cX8_advance 67 = .ok (.goto 9, 3) := by decide +kernel
theorem dX8_advance_70 : decode cX8_advance 70 = .ok (.aload_n 0, 1) := by decide +kernel
theorem dX8_advance_71 : decode cX8_advance 71 = .ok (.bipush 6, 2) := by decide +kernel
theorem dX8_advance_73 : decode cX8_advance 73 = .ok (.putfield 34, 3) := by decide +kernel
theorem dX8_advance_76 : decode cX8_advance 76 = .ok (.return_, 1) := by decide +kernel
theorem dX8_skipNothings_0 : decode cX8_skipNothings 0 = .ok (.aload_n 0, 1) := by decide +kernel
theorem dX8_skipNothings_1 : decode cX8_skipNothings 1 = .ok (.getfield 9, 3) := by decide +kernel
theorem dX8_skipNothings_4 : decode cX8_skipNothings 4 = .ok (.aload_n 0, 1) := by decide +kernel
theorem dX8_skipNothings_5 : decode cX8_skipNothings 5 = .ok (.getfield 15, 3) := by decide +kernel
theorem dX8_skipNothings_8 : decode cX8_skipNothings 8 = .ok (.invokevirtual 30, 3) := by decide +kernel
theorem dX8_skipNothings_11 : decode cX8_skipNothings 11 = .ok (.istore_n 1, 1) := by decide +kernel
theorem dX8_skipNothings_12 : decode cX8_skipNothings 12 = .ok (.aload_n 0, 1) := by decide +kernel
theorem dX8_skipNothings_13 : decode cX8_skipNothings 13 = .ok (.getfield 15, 3) := by decide +kernel
theorem dX8_skipNothings_16 : decode cX8_skipNothings 16 = .ok (.aload_n 0, 1) := by decide +kernel
theorem dX8_skipNothings_17 : decode cX8_skipNothings 17 = .ok (.getfield 9, 3) := by decide +kernel
theorem dX8_skipNothings_20 : decode cX8_skipNothings 20 = .ok (.getfield 19, 3) := by decide +kernel
theorem dX8_skipNothings_23 : decode cX8_skipNothings 23 = .ok (.if_icmp .ge 52, 3) := by decide +kernel
theorem dX8_skipNothings_26 : decode cX8_skipNothings 26 = .ok (.iload_n 1, 1) := by decide +kernel
theorem dX8_skipNothings_27 : decode cX8_skipNothings 27 = .ok (.bipush 9, 2) := by decide +kernel
theorem dX8_skipNothings_29 : decode cX8_skipNothings 29 = .ok (.if_icmp .eq 21, 3) := by decide +kernel
theorem dX8_skipNothings_32 : decode cX8_skipNothings 32 = .ok (.iload_n 1, 1) := by decide +kernel
theorem dX8_skipNothings_33 : decode cX8_skipNothings 33 = .ok (.bipush 13, 2) := by decide +kernel
theorem dX8_skipNothings_35 : decode cX8_skipNothings 35 = .ok (.if_icmp .eq 15, 3) := by decide +kernel
theorem dX8_skipNothings_38 : decode cX8_skipNothings 38 = .ok (.iload_n 1, 1) := by decide +kernel
theorem dX8_skipNothings_39 : decode cX8_skipNothings 39 = .ok (.bipush 32, 2) := by decide +kernel
theorem dX8_skipNothings_41 : decode cX8_skipNothings 41 = .ok (.if_icmp .eq 9, 3) := by decide +kernel
theorem dX8_skipNothings_44 : decode cX8_skipNothings 44 = .ok (.iload_n 1, 1) := by decide +kernel
theorem dX8_skipNothings_45 : decode cX8_skipNothings 45 = .ok (.bipush 44, 2) := by decide +kernel
theorem dX8_skipNothings_47 : decode cX8_skipNothings 47 = .ok (.if_icmp .ne 28, 3) := by decide +kernel
theorem dX8_skipNothings_50 : decode cX8_skipNothings 50 = .ok (.aload_n 0, 1) := by decide +kernel
theorem dX8_skipNothings_51 : decode cX8_skipNothings 51 = .ok (.dup, 1) := by decide +kernel
theorem dX8_skipNothings_52 : decode cX8_skipNothings 52 = .ok (.getfield 15, 3) := by decide +kernel
theorem dX8_skipNothings_55 : decode cX8_skipNothings 55 = .ok (.iconst 1, 1) := by decide +kernel
theorem dX8_skipNothings_56 : decode cX8_skipNothings 56 = .ok (.iadd, 1) := by decide +kernel
theorem dX8_skipNothings_57 : decode cX8_skipNothings 57 = .ok (.putfield 15, 3) := by decide +kernel
theorem dX8_skipNothings_60 : decode cX8_skipNothings 60 = .ok (.aload_n 0, 1) := by decide +kernel
theorem dX8_skipNothings_61 : decode cX8_skipNothings 61 = .ok (.getfield 9, 3) := by decide +kernel
theorem dX8_skipNothings_64 : decode cX8_skipNothings 64 = .ok (.aload_n 0, 1) := by decide +kernel
theorem dX8_skipNothings_65 : decode cX8_skipNothings 65 = .ok (.getfield 15, 3) := by decide +kernel
theorem dX8_skipNothings_68 : decode cX8_skipNothings 68 = .ok (.invokevirtual 30, 3) := by decide +kernel
theorem dX8_skipNothings_71 : decode cX8_skipNothings 71 = .ok (.istore_n 1, 1) := by decide +kernel
theorem dX8_skipNothings_72 : decode cX8_skipNothings 72 = .ok (.goto (-60), 3) := by decide +kernel
theorem dX8_skipNothings_75 : decode cX8_skipNothings 75 = .ok (.iload_n 1, 1) := by decide +kernel
theorem dX8_skipNothings_76 : decode cX8_skipNothings 76 = .ok (.bipush 59, 2) := by decide +kernel
theorem dX8_skipNothings_78 : decode cX8_skipNothings 78 = .ok (.if_icmp .ne 46, 3) := by decide +kernel
theorem dX8_skipNothings_81 : decode cX8_skipNothings 81 = .ok (.aload_n 0, 1) := by decide +kernel
theorem dX8_skipNothings_82 : decode cX8_skipNothings 82 = .ok (.getfield 15, 3) := by decide +kernel
theorem dX8_skipNothings_85 : decode cX8_skipNothings 85 = .ok (.aload_n 0, 1) := by decide +kernel
theorem dX8_skipNothings_86 : decode cX8_skipNothings 86 = .ok (.getfield 9, 3) := by decide +kernel
theorem dX8_skipNothings_89 : decode cX8_skipNothings 89 = .ok (.getfield 19, 3) := by decide +kernel
theorem dX8_skipNothings_92 : decode cX8_skipNothings 92 = .ok (.if_icmp .ge 32, 3) := by decide +kernel
theorem dX8_skipNothings_95 : decode cX8_skipNothings 95 = .ok (.aload_n 0, 1) := by decide +kernel
theorem dX8_skipNothings_96 : decode cX8_skipNothings 96 = .ok (.getfield 9, 3) := by decide +kernel
theorem dX8_skipNothings_99 : decode cX8_skipNothings 99 = .ok (.aload_n 0, 1) := by decide +kernel
theorem dX8_skipNothings_100 : decode cX8_skipNothings 100 = .ok (.getfield 15, 3) := by decide +kernel
theorem dX8_skipNothings_103 : decode cX8_skipNothings 103 = .ok (.invokevirtual 30, 3) := by decide +kernel
theorem dX8_skipNothings_106 : decode cX8_skipNothings 106 = .ok (.bipush 10, 2) := by decide +kernel
theorem dX8_skipNothings_108 : decode cX8_skipNothings 108 = .ok (.if_icmp .eq 16, 3) := by decide +kernel
theorem dX8_skipNothings_111 : decode cX8_skipNothings 111 = .ok (.aload_n 0, 1) := by decide +kernel
theorem dX8_skipNothings_112 : decode cX8_skipNothings 112 = .ok (.dup, 1) := by decide +kernel
theorem dX8_skipNothings_113 : decode cX8_skipNothings 113 = .ok (.getfield 15, 3) := by decide +kernel
theorem dX8_skipNothings_116 : decode cX8_skipNothings 116 = .ok (.iconst 1, 1) := by decide +kernel
theorem dX8_skipNothings_117 : decode cX8_skipNothings 117 = .ok (.iadd, 1) := by decide +kernel
theorem dX8_skipNothings_118 : decode cX8_skipNothings 118 = .ok (.putfield 15, 3) := by decide +kernel
theorem dX8_skipNothings_121 : decode cX8_skipNothings 121 = .ok (.goto (-40), 3) := by decide +kernel
theorem dX8_skipNothings_124 : decode cX8_skipNothings 124 = .ok (.return_, 1) := by decide +kernel
theorem dX8_readText_0 : decode cX8_readText 0 = .ok (.aload_n 0, 1) := by decide +kernel
theorem dX8_readText_1 : decode cX8_readText 1 = .ok (.bipush 6, 2) := by decide +kernel
theorem dX8_readText_3 : decode cX8_readText 3 = .ok (.putfield 34, 3) := by decide +kernel
theorem dX8_readText_6 : decode cX8_readText 6 = .ok (.aload_n 0, 1) := by decide +kernel
theorem dX8_readText_7 : decode cX8_readText 7 = .ok (.iconst 0, 1) := by decide +kernel
theorem dX8_readText_8 : decode cX8_readText 8 = .ok (.putfield 46, 3) := by decide +kernel
theorem dX8_readText_11 : decode cX8_readText 11 = .ok (.aload_n 0, 1) := by decide +kernel
theorem dX8_readText_12 : decode cX8_readText 12 = .ok (.getfield 27, 3) := by decide +kernel
theorem dX8_readText_15 : decode cX8_readText 15 = .ok (.iconst 1, 1) := by decide +kernel
theorem dX8_readText_16 : decode cX8_readText 16 = .ok (.iadd, 1) := by decide +kernel
theorem dX8_readText_17 : decode cX8_readText 17 = .ok (.istore_n 1, 1) := by decide +kernel
theorem dX8_readText_18 : decode cX8_readText 18 = .ok (.iload_n 1, 1) := by decide +kernel
theorem dX8_readText_19 : decode cX8_readText 19 = .ok (.aload_n 0, 1) := by decide +kernel
theorem dX8_readText_20 : decode cX8_readText 20 = .ok (.getfield 9, 3) := by decide +kernel
theorem dX8_readText_23 : decode cX8_readText 23 = .ok (.getfield 19, 3) := by decide +kernel
theorem dX8_readText_26 : decode cX8_readText 26 = .ok (.if_icmp .ge 91, 3) := by decide +kernel
theorem dX8_readText_29 : decode cX8_readText 29 = .ok (.aload_n 0, 1) := by decide +kernel
theorem dX8_readText_30 : decode cX8_readText 30 = .ok (.getfield 9, 3) := by decide +kernel
theorem dX8_readText_33 : decode cX8_readText 33 = .ok (.iload_n 1, 1) := by decide +kernel
theorem dX8_readText_34 : decode cX8_readText 34 = .ok (.invokevirtual 30, 3) := by decide +kernel
theorem dX8_readText_37 : decode cX8_readText 37 = .ok (.istore_n 2, 1) := by decide +kernel
theorem dX8_readText_38 : decode cX8_readText 38 = .ok (.iload_n 2, 1) := by decide +kernel
theorem dX8_readText_39 : decode cX8_readText 39 = .ok (.bipush 34, 2) := by decide +kernel
theorem dX8_readText_41 : decode cX8_readText 41 = .ok (.if_icmp .ne 16, 3) := by decide +kernel
theorem dX8_readText_44 : decode cX8_readText 44 = .ok (.aload_n 0, 1) := by decide +kernel
theorem dX8_readText_45 : decode cX8_readText 45 = .ok (.iconst 5, 1) := by decide +kernel
theorem dX8_readText_46 : decode cX8_readText 46 = .ok (.putfield 34, 3) := by decide +kernel
theorem dX8_readText_49 : decode cX8_readText 49 = .ok (.aload_n 0, 1) := by decide +kernel
theorem dX8_readText_50 : decode cX8_readText 50 = .ok (.iload_n 1, 1) := by decide +kernel
theorem dX8_readText_51 : decode cX8_readText 51 = .ok (.iconst 1, 1) := by decide +kernel
theorem dX8_readText_52 : decode cX8_readText 52 = .ok (.iadd, 1) := by decide +kernel
theorem dX8_readText_53 : decode cX8_readText 53 = .ok (.putfield 15, 3) := by decide +kernel
theorem dX8_readText_56 : decode cX8_readText 56 = .ok (.return_, 1) := by decide +kernel
theorem dX8_readText_57 : decode cX8_readText 57 = .ok (.iload_n 2, 1) := by decide +kernel
theorem dX8_readText_58 : decode cX8_readText 58 = .ok (.bipush 92, 2) := by decide +kernel
theorem dX8_readText_60 : decode cX8_readText 60 = .ok (.if_icmp .ne 28, 3) := by decide +kernel
theorem dX8_readText_63 : decode cX8_readText 63 = .ok (.iinc 1 1, 3) := by decide +kernel
theorem dX8_readText_66 : decode cX8_readText 66 = .ok (.aload_n 0, 1) := by decide +kernel
theorem dX8_readText_67 : decode cX8_readText 67 = .ok (.getfield 9, 3) := by decide +kernel
theorem dX8_readText_70 : decode cX8_readText 70 = .ok (.iload_n 1, 1) := by decide +kernel
theorem dX8_readText_71 : decode cX8_readText 71 = .ok (.invokevirtual 30, 3) := by decide +kernel
theorem dX8_readText_74 : decode cX8_readText 74 = .ok (.invokestatic 49, 3) := by decide +kernel
theorem dX8_readText_77 : decode cX8_readText 77 = .ok (.iconst (-1), 1) := by decide +kernel
theorem dX8_readText_78 : decode cX8_readText 78 = .ok (.if_icmp .ne 7, 3) := by decide +kernel
theorem dX8_readText_81 : decode cX8_readText 81 = .ok (.iconst (-1), 1) := by decide +kernel
theorem dX8_readText_82 : decode cX8_readText 82 = .ok (.goto 5, 3) := by decide +kernel
theorem dX8_readText_85 : decode cX8_readText 85 = .ok (.bipush 32, 2) := by decide +kernel
theorem dX8_readText_87 : decode cX8_readText 87 = .ok (.istore_n 2, 1) := by decide +kernel
theorem dX8_readText_88 : decode cX8_readText 88 = .ok (.iload_n 2, 1) := by decide +kernel
theorem dX8_readText_89 : decode cX8_readText 89 = .ok (.bipush 32, 2) := by decide +kernel
theorem dX8_readText_91 : decode cX8_readText 91 = .ok (.if_icmp .lt 9, 3) := by decide +kernel
theorem dX8_readText_94 : decode cX8_readText 94 = .ok (.iload_n 2, 1) := by decide +kernel
theorem dX8_readText_95 : decode cX8_readText 95 = .ok (.bipush 126, 2) := by decide +kernel
theorem dX8_readText_97 : decode cX8_readText 97 = .ok (.if_icmp .le 4, 3) := by decide +kernel
theorem dX8_readText_100 : decode cX8_readText 100 = .ok (.return_, 1) := by decide +kernel
theorem dX8_readText_101 : decode cX8_readText 101 = .ok (.aload_n 0, 1) := by decide +kernel
theorem dX8_readText_102 : decode cX8_readText 102 = .ok (.dup, 1) := by decide +kernel
theorem dX8_readText_103 : decode cX8_readText 103 = .ok (.getfield 46, 3) := by decide +kernel
theorem dX8_readText_106 : decode cX8_readText 106 = .ok (.iconst 1, 1) := by decide +kernel
theorem dX8_readText_107 : decode cX8_readText 107 = .ok (.iadd, 1) := by decide +kernel
theorem dX8_readText_108 : decode cX8_readText 108 = .ok (.putfield 46, 3) := by decide +kernel
theorem dX8_readText_111 : decode cX8_readText 111 = .ok (.iinc 1 1, 3) := by decide +kernel
theorem dX8_readText_114 : decode cX8_readText 114 = .ok (.goto (-96), 3) := by decide +kernel
theorem dX8_readText_117 : decode cX8_readText 117 = .ok (.return_, 1) := by decide +kernel
theorem dX8_readWord_0 : decode cX8_readWord 0 = .ok (.aload_n 0, 1) := by decide +kernel
theorem dX8_readWord_1 : decode cX8_readWord 1 = .ok (.lconst 0, 1) := by decide +kernel
theorem dX8_readWord_2 : decode cX8_readWord 2 = .ok (.putfield 52, 3) := by decide +kernel
theorem dX8_readWord_5 : decode cX8_readWord 5 = .ok (.aload_n 0, 1) := by decide +kernel
theorem dX8_readWord_6 : decode cX8_readWord 6 = .ok (.lconst 0, 1) := by decide +kernel
theorem dX8_readWord_7 : decode cX8_readWord 7 = .ok (.putfield 56, 3) := by decide +kernel
theorem dX8_readWord_10 : decode cX8_readWord 10 = .ok (.aload_n 0, 1) := by decide +kernel
theorem dX8_readWord_11 : decode cX8_readWord 11 = .ok (.getfield 9, 3) := by decide +kernel
theorem dX8_readWord_14 : decode cX8_readWord 14 = .ok (.aload_n 0, 1) := by decide +kernel
theorem dX8_readWord_15 : decode cX8_readWord 15 = .ok (.getfield 27, 3) := by decide +kernel
theorem dX8_readWord_18 : decode cX8_readWord 18 = .ok (.invokevirtual 30, 3) := by decide +kernel
theorem dX8_readWord_21 : decode cX8_readWord 21 = .ok (.invokestatic 40, 3) := by decide +kernel
theorem dX8_readWord_24 : decode cX8_readWord 24 = .ok (.bipush 26, 2) := by decide +kernel
theorem dX8_readWord_26 : decode cX8_readWord 26 = .ok (.if_icmp .gt 7, 3) := by decide +kernel
theorem dX8_readWord_29 : decode cX8_readWord 29 = .ok (.iconst 1, 1) := by decide +kernel
theorem dX8_readWord_30 : decode cX8_readWord 30 = .ok (.goto 4, 3) := by decide +kernel
theorem dX8_readWord_33 : decode cX8_readWord 33 = .ok (.iconst 0, 1) := by decide +kernel
theorem dX8_readWord_34 : decode cX8_readWord 34 = .ok (.istore_n 1, 1) := by decide +kernel
theorem dX8_readWord_35 : decode cX8_readWord 35 = .ok (.aload_n 0, 1) := by decide +kernel
theorem dX8_readWord_36 : decode cX8_readWord 36 = .ok (.getfield 27, 3) := by decide +kernel
theorem dX8_readWord_39 : decode cX8_readWord 39 = .ok (.istore_n 2, 1) := by decide +kernel
theorem dX8_readWord_40 : decode cX8_readWord 40 = .ok (.iload_n 2, 1) := by decide +kernel
theorem dX8_readWord_41 : decode cX8_readWord 41 = .ok (.aload_n 0, 1) := by decide +kernel
theorem dX8_readWord_42 : decode cX8_readWord 42 = .ok (.getfield 9, 3) := by decide +kernel
theorem dX8_readWord_45 : decode cX8_readWord 45 = .ok (.getfield 19, 3) := by decide +kernel
theorem dX8_readWord_48 : decode cX8_readWord 48 = .ok (.if_icmp .ge 95, 3) := by decide +kernel
theorem dX8_readWord_51 : decode cX8_readWord 51 = .ok (.aload_n 0, 1) := by decide +kernel
theorem dX8_readWord_52 : decode cX8_readWord 52 = .ok (.getfield 9, 3) := by decide +kernel
theorem dX8_readWord_55 : decode cX8_readWord 55 = .ok (.iload_n 2, 1) := by decide +kernel
theorem dX8_readWord_56 : decode cX8_readWord 56 = .ok (.invokevirtual 30, 3) := by decide +kernel
theorem dX8_readWord_59 : decode cX8_readWord 59 = .ok (.invokestatic 40, 3) := by decide +kernel
theorem dX8_readWord_62 : decode cX8_readWord 62 = .ok (.istore_n 3, 1) := by decide +kernel
theorem dX8_readWord_63 : decode cX8_readWord 63 = .ok (.iload_n 3, 1) := by decide +kernel
theorem dX8_readWord_64 : decode cX8_readWord 64 = .ok (.ifCond .ne 6, 3) := by decide +kernel
theorem dX8_readWord_67 : decode cX8_readWord 67 = .ok (.goto 76, 3) := by decide +kernel
theorem dX8_readWord_70 : decode cX8_readWord 70 = .ok (.iload_n 2, 1) := by decide +kernel
theorem dX8_readWord_71 : decode cX8_readWord 71 = .ok (.aload_n 0, 1) := by decide +kernel
theorem dX8_readWord_72 : decode cX8_readWord 72 = .ok (.getfield 27, 3) := by decide +kernel
theorem dX8_readWord_75 : decode cX8_readWord 75 = .ok (.isub, 1) := by decide +kernel
theorem dX8_readWord_76 : decode cX8_readWord 76 = .ok (.bipush 10, 2) := by decide +kernel
theorem dX8_readWord_78 : decode cX8_readWord 78 = .ok (.if_icmp .ge 21, 3) := by decide +kernel
theorem dX8_readWord_81 : decode cX8_readWord 81 = .ok (.aload_n 0, 1) := by decide +kernel
theorem dX8_readWord_82 : decode cX8_readWord 82 = .ok (.aload_n 0, 1) := by decide +kernel
theorem dX8_readWord_83 : decode cX8_readWord 83 = .ok (.getfield 52, 3) := by decide +kernel
theorem dX8_readWord_86 : decode cX8_readWord 86 = .ok (.ldc2_w 59, 3) := by decide +kernel
theorem dX8_readWord_89 : decode cX8_readWord 89 = .ok (.lmul, 1) := by decide +kernel
theorem dX8_readWord_90 : decode cX8_readWord 90 = .ok (.iload_n 3, 1) := by decide +kernel
theorem dX8_readWord_91 : decode cX8_readWord 91 = .ok (.i2l, 1) := by decide +kernel
theorem dX8_readWord_92 : decode cX8_readWord 92 = .ok (.ladd, 1) := by decide +kernel
theorem dX8_readWord_93 : decode cX8_readWord 93 = .ok (.putfield 52, 3) := by decide +kernel
theorem dX8_readWord_96 : decode cX8_readWord 96 = .ok (.goto 18, 3) := by decide +kernel
theorem dX8_readWord_99 : decode cX8_readWord 99 = .ok (.aload_n 0, 1) := by decide +kernel
theorem dX8_readWord_100 : decode cX8_readWord 100 = .ok (.aload_n 0, 1) := by decide +kernel
theorem dX8_readWord_101 : decode cX8_readWord 101 = .ok (.getfield 56, 3) := by decide +kernel
theorem dX8_readWord_104 : decode cX8_readWord 104 = .ok (.ldc2_w 59, 3) := by decide +kernel
theorem dX8_readWord_107 : decode cX8_readWord 107 = .ok (.lmul, 1) := by decide +kernel
theorem dX8_readWord_108 : decode cX8_readWord 108 = .ok (.iload_n 3, 1) := by decide +kernel
theorem dX8_readWord_109 : decode cX8_readWord 109 = .ok (.i2l, 1) := by decide +kernel
theorem dX8_readWord_110 : decode cX8_readWord 110 = .ok (.ladd, 1) := by decide +kernel
theorem dX8_readWord_111 : decode cX8_readWord 111 = .ok (.putfield 56, 3) := by decide +kernel
theorem dX8_readWord_114 : decode cX8_readWord 114 = .ok (.iload_n 1, 1) := by decide +kernel
theorem dX8_readWord_115 : decode cX8_readWord 115 = .ok (.ifCond .eq 13, 3) := by decide +kernel
theorem dX8_readWord_118 : decode cX8_readWord 118 = .ok (.iload_n 3, 1) := by decide +kernel
theorem dX8_readWord_119 : decode cX8_readWord 119 = .ok (.bipush 37, 2) := by decide +kernel
theorem dX8_readWord_121 : decode cX8_readWord 121 = .ok (.if_icmp .gt 7, 3) := by decide +kernel
theorem dX8_readWord_124 : decode cX8_readWord 124 = .ok (.iconst 1, 1) := by decide +kernel
theorem dX8_readWord_125 : decode cX8_readWord 125 = .ok (.goto 4, 3) := by decide +kernel
theorem dX8_readWord_128 : decode cX8_readWord 128 = .ok (.iconst 0, 1) := by decide +kernel
theorem dX8_readWord_129 : decode cX8_readWord 129 = .ok (.istore_n 1, 1) := by decide +kernel
theorem dX8_readWord_130 : decode cX8_readWord 130 = .ok (.aload_n 0, 1) := by decide +kernel
theorem dX8_readWord_131 : decode cX8_readWord 131 = .ok (.iload_n 2, 1) := by decide +kernel
theorem dX8_readWord_132 : decode cX8_readWord 132 = .ok (.iconst 1, 1) := by decide +kernel
theorem dX8_readWord_133 : decode cX8_readWord 133 = .ok (.iadd, 1) := by decide +kernel
theorem dX8_readWord_134 : decode cX8_readWord 134 = .ok (.putfield 15, 3) := by decide +kernel
theorem dX8_readWord_137 : decode cX8_readWord 137 = .ok (.iinc 2 1, 3) := by decide +kernel
theorem dX8_readWord_140 : decode cX8_readWord 140 = .ok (.goto (-100), 3) := by decide +kernel
theorem dX8_readWord_143 : decode cX8_readWord 143 = .ok (.aload_n 0, 1) := by decide +kernel
theorem dX8_readWord_144 : decode cX8_readWord 144 = .ok (.invokevirtual 61, 3) := by decide +kernel
theorem dX8_readWord_147 : decode cX8_readWord 147 = .ok (.ifCond .eq 11, 3) := by decide +kernel
theorem dX8_readWord_150 : decode cX8_readWord 150 = .ok (.aload_n 0, 1) := by decide +kernel
theorem dX8_readWord_151 : decode cX8_readWord 151 = .ok (.iconst 1, 1) := by decide +kernel
theorem dX8_readWord_152 : decode cX8_readWord 152 = .ok (.putfield 34, 3) := by decide +kernel
theorem dX8_readWord_155 : decode cX8_readWord 155 = .ok (.goto 61, 3) := by decide +kernel
theorem dX8_readWord_158 : decode cX8_readWord 158 = .ok (.aload_n 0, 1) := by decide +kernel
theorem dX8_readWord_159 : decode cX8_readWord 159 = .ok (.invokevirtual 65, 3) := by decide +kernel
theorem dX8_readWord_162 : decode cX8_readWord 162 = .ok (.ifCond .eq 11, 3) := by decide +kernel
theorem dX8_readWord_165 : decode cX8_readWord 165 = .ok (.aload_n 0, 1) := by decide +kernel
theorem dX8_readWord_166 : decode cX8_readWord 166 = .ok (.iconst 2, 1) := by decide +kernel
theorem dX8_readWord_167 : decode cX8_readWord 167 = .ok (.putfield 34, 3) := by decide +kernel
theorem dX8_readWord_170 : decode cX8_readWord 170 = .ok (.goto 46, 3) := by decide +kernel
theorem dX8_readWord_173 : decode cX8_readWord 173 = .ok (.aload_n 0, 1) := by decide +kernel
theorem dX8_readWord_174 : decode cX8_readWord 174 = .ok (.invokevirtual 68, 3) := by decide +kernel
theorem dX8_readWord_177 : decode cX8_readWord 177 = .ok (.ifCond .eq 11, 3) := by decide +kernel
theorem dX8_readWord_180 : decode cX8_readWord 180 = .ok (.aload_n 0, 1) := by decide +kernel
theorem dX8_readWord_181 : decode cX8_readWord 181 = .ok (.iconst 3, 1) := by decide +kernel
theorem dX8_readWord_182 : decode cX8_readWord 182 = .ok (.putfield 34, 3) := by decide +kernel
theorem dX8_readWord_185 : decode cX8_readWord 185 = .ok (.goto 31, 3) := by decide +kernel
theorem dX8_readWord_188 : decode cX8_readWord 188 = .ok (.aload_n 0, 1) := by decide +kernel
theorem dX8_readWord_189 : decode cX8_readWord 189 = .ok (.iload_n 1, 1) := by decide +kernel
theorem dX8_readWord_190 : decode cX8_readWord 190 = .ok (.ifCond .eq 21, 3) := by decide +kernel
theorem dX8_readWord_193 : decode cX8_readWord 193 = .ok (.aload_n 0, 1) := by decide +kernel
theorem dX8_readWord_194 : decode cX8_readWord 194 = .ok (.getfield 15, 3) := by decide +kernel
theorem dX8_readWord_197 : decode cX8_readWord 197 = .ok (.aload_n 0, 1) := by decide +kernel
theorem dX8_readWord_198 : decode cX8_readWord 198 = .ok (.getfield 27, 3) := by decide +kernel
theorem dX8_readWord_201 : decode cX8_readWord 201 = .ok (.isub, 1) := by decide +kernel
theorem dX8_readWord_202 : decode cX8_readWord 202 = .ok (.bipush 20, 2) := by decide +kernel
theorem dX8_readWord_204 : decode cX8_readWord 204 = .ok (.if_icmp .gt 7, 3) := by decide +kernel
theorem dX8_readWord_207 : decode cX8_readWord 207 = .ok (.iconst 4, 1) := by decide +kernel
theorem dX8_readWord_208 : decode cX8_readWord 208 = .ok (.goto 5, 3) := by decide +kernel
theorem dX8_readWord_211 : decode cX8_readWord 211 = .ok (.bipush 6, 2) := by decide +kernel
theorem dX8_readWord_213 : decode cX8_readWord 213 = .ok (.putfield 34, 3) := by decide +kernel
theorem dX8_readWord_216 : decode cX8_readWord 216 = .ok (.return_, 1) := by decide +kernel
theorem dX8_findOp_0 : decode cX8_findOp 0 = .ok (.aload_n 0, 1) := by decide +kernel
theorem dX8_findOp_1 : decode cX8_findOp 1 = .ok (.aconst_null, 1) := by decide +kernel
theorem dX8_findOp_2 : decode cX8_findOp 2 = .ok (.putfield 71, 3) := by decide +kernel
theorem dX8_findOp_5 : decode cX8_findOp 5 = .ok (.aload_n 0, 1) := by decide +kernel
theorem dX8_findOp_6 : decode cX8_findOp 6 = .ok (.getfield 15, 3) := by decide +kernel
theorem dX8_findOp_9 : decode cX8_findOp 9 = .ok (.aload_n 0, 1) := by decide +kernel
theorem dX8_findOp_10 : decode cX8_findOp 10 = .ok (.getfield 27, 3) := by decide +kernel
theorem dX8_findOp_13 : decode cX8_findOp 13 = .ok (.isub, 1) := by decide +kernel
theorem dX8_findOp_14 : decode cX8_findOp 14 = .ok (.bipush 10, 2) := by decide +kernel
theorem dX8_findOp_16 : decode cX8_findOp 16 = .ok (.if_icmp .le 5, 3) := by decide +kernel
theorem dX8_findOp_19 : decode cX8_findOp 19 = .ok (.iconst 0, 1) := by decide +kernel
theorem dX8_findOp_20 : decode cX8_findOp 20 = .ok (.ireturn, 1) := by decide +kernel
theorem dX8_findOp_21 : decode cX8_findOp 21 = .ok (.iconst 0, 1) := by decide +kernel
theorem dX8_findOp_22 : decode cX8_findOp 22 = .ok (.istore_n 1, 1) := by decide +kernel
theorem dX8_findOp_23 : decode cX8_findOp 23 = .ok (.iload_n 1, 1) := by decide +kernel
theorem dX8_findOp_24 : decode cX8_findOp 24 = .ok (.getstatic 75, 3) := by decide +kernel
theorem dX8_findOp_27 : decode cX8_findOp 27 = .ok (.arraylength, 1) := by decide +kernel
theorem dX8_findOp_28 : decode cX8_findOp 28 = .ok (.if_icmp .ge 36, 3) := by decide +kernel
theorem dX8_findOp_31 : decode cX8_findOp 31 = .ok (.getstatic 75, 3) := by decide +kernel
theorem dX8_findOp_34 : decode cX8_findOp 34 = .ok (.iload_n 1, 1) := by decide +kernel
theorem dX8_findOp_35 : decode cX8_findOp 35 = .ok (.aaload, 1) := by decide +kernel
theorem dX8_findOp_36 : decode cX8_findOp 36 = .ok (.getfield 81, 3) := by decide +kernel
theorem dX8_findOp_39 : decode cX8_findOp 39 = .ok (.aload_n 0, 1) := by decide +kernel
theorem dX8_findOp_40 : decode cX8_findOp 40 = .ok (.getfield 52, 3) := by decide +kernel
theorem dX8_findOp_43 : decode cX8_findOp 43 = .ok (.lcmp, 1) := by decide +kernel
theorem dX8_findOp_44 : decode cX8_findOp 44 = .ok (.ifCond .ne 14, 3) := by decide +kernel
theorem dX8_findOp_47 : decode cX8_findOp 47 = .ok (.aload_n 0, 1) := by decide +kernel
theorem dX8_findOp_48 : decode cX8_findOp 48 = .ok (.getstatic 75, 3) := by decide +kernel
theorem dX8_findOp_51 : decode cX8_findOp 51 = .ok (.iload_n 1, 1) := by decide +kernel
theorem dX8_findOp_52 : decode cX8_findOp 52 = .ok (.aaload, 1) := by decide +kernel
theorem dX8_findOp_53 : decode cX8_findOp 53 = .ok (.putfield 71, 3) := by decide +kernel
theorem dX8_findOp_56 : decode cX8_findOp 56 = .ok (.iconst 1, 1) := by decide +kernel
theorem dX8_findOp_57 : decode cX8_findOp 57 = .ok (.ireturn, 1) := by decide +kernel
theorem dX8_findOp_58 : decode cX8_findOp 58 = .ok (.iinc 1 1, 3) := by decide +kernel
theorem dX8_findOp_61 : decode cX8_findOp 61 = .ok (.goto (-38), 3) := by decide +kernel
theorem dX8_findOp_64 : decode cX8_findOp 64 = .ok (.iconst 0, 1) := by decide +kernel
theorem dX8_findOp_65 : decode cX8_findOp 65 = .ok (.ireturn, 1) := by decide +kernel
theorem dX8_findRegister_0 : decode cX8_findRegister 0 = .ok (.aload_n 0, 1) := by decide +kernel
theorem dX8_findRegister_1 : decode cX8_findRegister 1 = .ok (.getfield 15, 3) := by decide +kernel
theorem dX8_findRegister_4 : decode cX8_findRegister 4 = .ok (.aload_n 0, 1) := by decide +kernel
theorem dX8_findRegister_5 : decode cX8_findRegister 5 = .ok (.getfield 27, 3) := by decide +kernel
theorem dX8_findRegister_8 : decode cX8_findRegister 8 = .ok (.isub, 1) := by decide +kernel
theorem dX8_findRegister_9 : decode cX8_findRegister 9 = .ok (.iconst 2, 1) := by decide +kernel
theorem dX8_findRegister_10 : decode cX8_findRegister 10 = .ok (.if_icmp .ne 25, 3) := by decide +kernel
theorem dX8_findRegister_13 : decode cX8_findRegister 13 = .ok (.aload_n 0, 1) := by decide +kernel
theorem dX8_findRegister_14 : decode cX8_findRegister 14 = .ok (.getfield 52, 3) := by decide +kernel
theorem dX8_findRegister_17 : decode cX8_findRegister 17 = .ok (.ldc2_w 84, 3) := by decide +kernel
theorem dX8_findRegister_20 : decode cX8_findRegister 20 = .ok (.lcmp, 1) := by decide +kernel
theorem dX8_findRegister_21 : decode cX8_findRegister 21 = .ok (.ifCond .lt 14, 3) := by decide +kernel
theorem dX8_findRegister_24 : decode cX8_findRegister 24 = .ok (.aload_n 0, 1) := by decide +kernel
theorem dX8_findRegister_25 : decode cX8_findRegister 25 = .ok (.getfield 52, 3) := by decide +kernel
theorem dX8_findRegister_28 : decode cX8_findRegister 28 = .ok (.ldc2_w 86, 3) := by decide +kernel
theorem dX8_findRegister_31 : decode cX8_findRegister 31 = .ok (.lcmp, 1) := by decide +kernel
theorem dX8_findRegister_32 : decode cX8_findRegister 32 = .ok (.ifCond .le 5, 3) := by decide +kernel
theorem dX8_findRegister_35 : decode cX8_findRegister 35 = .ok (.iconst 0, 1) := by decide +kernel
theorem dX8_findRegister_36 : decode cX8_findRegister 36 = .ok (.ireturn, 1) := by decide +kernel
theorem dX8_findRegister_37 : decode cX8_findRegister 37 = .ok (.aload_n 0, 1) := by decide +kernel
theorem dX8_findRegister_38 : decode cX8_findRegister 38 = .ok (.aload_n 0, 1) := by decide +kernel
theorem dX8_findRegister_39 : decode cX8_findRegister 39 = .ok (.getfield 52, 3) := by decide +kernel
theorem dX8_findRegister_42 : decode cX8_findRegister 42 = .ok (.ldc2_w 84, 3) := by decide +kernel
theorem dX8_findRegister_45 : decode cX8_findRegister 45 = .ok (.lsub, 1) := by decide +kernel
theorem dX8_findRegister_46 : decode cX8_findRegister 46 = .ok (.l2i, 1) := by decide +kernel
theorem dX8_findRegister_47 : decode cX8_findRegister 47 = .ok (.putfield 46, 3) := by decide +kernel
theorem dX8_findRegister_50 : decode cX8_findRegister 50 = .ok (.iconst 1, 1) := by decide +kernel
theorem dX8_findRegister_51 : decode cX8_findRegister 51 = .ok (.ireturn, 1) := by decide +kernel
theorem dX8_findNumber_0 : decode cX8_findNumber 0 = .ok (.aload_n 0, 1) := by decide +kernel
theorem dX8_findNumber_1 : decode cX8_findNumber 1 = .ok (.getfield 9, 3) := by decide +kernel
theorem dX8_findNumber_4 : decode cX8_findNumber 4 = .ok (.aload_n 0, 1) := by decide +kernel
theorem dX8_findNumber_5 : decode cX8_findNumber 5 = .ok (.getfield 27, 3) := by decide +kernel
theorem dX8_findNumber_8 : decode cX8_findNumber 8 = .ok (.invokevirtual 30, 3) := by decide +kernel
theorem dX8_findNumber_11 : decode cX8_findNumber 11 = .ok (.istore_n 1, 1) := by decide +kernel
theorem dX8_findNumber_12 : decode cX8_findNumber 12 = .ok (.iload_n 1, 1) := by decide +kernel
theorem dX8_findNumber_13 : decode cX8_findNumber 13 = .ok (.bipush 88, 2) := by decide +kernel
theorem dX8_findNumber_15 : decode cX8_findNumber 15 = .ok (.if_icmp .eq 9, 3) := by decide +kernel
theorem dX8_findNumber_18 : decode cX8_findNumber 18 = .ok (.iload_n 1, 1) := by decide +kernel
theorem dX8_findNumber_19 : decode cX8_findNumber 19 = .ok (.bipush 120, 2) := by decide +kernel
theorem dX8_findNumber_21 : decode cX8_findNumber 21 = .ok (.if_icmp .ne 8, 3) := by decide +kernel
theorem dX8_findNumber_24 : decode cX8_findNumber 24 = .ok (.bipush 16, 2) := by decide +kernel
theorem dX8_findNumber_26 : decode cX8_findNumber 26 = .ok (.goto 5, 3) := by decide +kernel
theorem dX8_findNumber_29 : decode cX8_findNumber 29 = .ok (.bipush 10, 2) := by decide +kernel
theorem dX8_findNumber_31 : decode cX8_findNumber 31 = .ok (.istore_n 2, 1) := by decide +kernel
theorem dX8_findNumber_32 : decode cX8_findNumber 32 = .ok (.iload_n 2, 1) := by decide +kernel
theorem dX8_findNumber_33 : decode cX8_findNumber 33 = .ok (.bipush 16, 2) := by decide +kernel
theorem dX8_findNumber_35 : decode cX8_findNumber 35 = .ok (.if_icmp .eq 9, 3) := by decide +kernel
theorem dX8_findNumber_38 : decode cX8_findNumber 38 = .ok (.iload_n 1, 1) := by decide +kernel
theorem dX8_findNumber_39 : decode cX8_findNumber 39 = .ok (.bipush 35, 2) := by decide +kernel
theorem dX8_findNumber_41 : decode cX8_findNumber 41 = .ok (.if_icmp .ne 12, 3) := by decide +kernel
theorem dX8_findNumber_44 : decode cX8_findNumber 44 = .ok (.aload_n 0, 1) := by decide +kernel
theorem dX8_findNumber_45 : decode cX8_findNumber 45 = .ok (.getfield 27, 3) := by decide +kernel
theorem dX8_findNumber_48 : decode cX8_findNumber 48 = .ok (.iconst 1, 1) := by decide +kernel
theorem dX8_findNumber_49 : decode cX8_findNumber 49 = .ok (.iadd, 1) := by decide +kernel
theorem dX8_findNumber_50 : decode cX8_findNumber 50 = .ok (.goto 7, 3) := by decide +kernel
theorem dX8_findNumber_53 : decode cX8_findNumber 53 = .ok (.aload_n 0, 1) := by decide +kernel
theorem dX8_findNumber_54 : decode cX8_findNumber 54 = .ok (.getfield 27, 3) := by decide +kernel
theorem dX8_findNumber_57 : decode cX8_findNumber 57 = .ok (.istore_n 3, 1) := by decide +kernel
theorem dX8_findNumber_58 : decode cX8_findNumber 58 = .ok (.aload_n 0, 1) := by decide +kernel
theorem dX8_findNumber_59 : decode cX8_findNumber 59 = .ok (.getfield 9, 3) := by decide +kernel
theorem dX8_findNumber_62 : decode cX8_findNumber 62 = .ok (.iload_n 3, 1) := by decide +kernel
theorem dX8_findNumber_63 : decode cX8_findNumber 63 = .ok (.invokevirtual 30, 3) := by decide +kernel
theorem dX8_findNumber_66 : decode cX8_findNumber 66 = .ok (.bipush 45, 2) := by decide +kernel
theorem dX8_findNumber_68 : decode cX8_findNumber 68 = .ok (.if_icmp .ne 7, 3) := by decide +kernel
theorem dX8_findNumber_71 : decode cX8_findNumber 71 = .ok (.iconst 1, 1) := by decide +kernel
theorem dX8_findNumber_72 : decode cX8_findNumber 72 = .ok (.goto 4, 3) := by decide +kernel
theorem dX8_findNumber_75 : decode cX8_findNumber 75 = .ok (.iconst 0, 1) := by decide +kernel
theorem dX8_findNumber_76 : decode cX8_findNumber 76 = .ok (.istore 4, 2) := by decide +kernel
theorem dX8_findNumber_78 : decode cX8_findNumber 78 = .ok (.iload 4, 2) := by decide +kernel
theorem dX8_findNumber_80 : decode cX8_findNumber 80 = .ok (.ifCond .eq 6, 3) := by decide +kernel
theorem dX8_findNumber_83 : decode cX8_findNumber 83 = .ok (.iinc 3 1, 3) := by decide +kernel
theorem dX8_findNumber_86 : decode cX8_findNumber 86 = .ok (.iload_n 3, 1) := by decide +kernel
theorem dX8_findNumber_87 : decode cX8_findNumber 87 = .ok (.aload_n 0, 1) := by decide +kernel
theorem dX8_findNumber_88 : decode cX8_findNumber 88 = .ok (.getfield 15, 3) := by decide +kernel
theorem dX8_findNumber_91 : decode cX8_findNumber 91 = .ok (.if_icmp .ge 24, 3) := by decide +kernel
theorem dX8_findNumber_94 : decode cX8_findNumber 94 = .ok (.aload_n 0, 1) := by decide +kernel
theorem dX8_findNumber_95 : decode cX8_findNumber 95 = .ok (.getfield 15, 3) := by decide +kernel
theorem dX8_findNumber_98 : decode cX8_findNumber 98 = .ok (.iload_n 3, 1) := by decide +kernel
theorem dX8_findNumber_99 : decode cX8_findNumber 99 = .ok (.isub, 1) := by decide +kernel
theorem dX8_findNumber_100 : decode cX8_findNumber 100 = .ok (.iload_n 2, 1) := by decide +kernel
theorem dX8_findNumber_101 : decode cX8_findNumber 101 = .ok (.bipush 16, 2) := by decide +kernel
theorem dX8_findNumber_103 : decode cX8_findNumber 103 = .ok (.if_icmp .ne 7, 3) := by decide +kernel
theorem dX8_findNumber_106 : decode cX8_findNumber 106 = .ok (.iconst 5, 1) := by decide +kernel
theorem dX8_findNumber_107 : decode cX8_findNumber 107 = .ok (.goto 5, 3) := by decide +kernel
theorem dX8_findNumber_110 : decode cX8_findNumber 110 = .ok (.bipush 6, 2) := by decide +kernel
theorem dX8_findNumber_112 : decode cX8_findNumber 112 = .ok (.if_icmp .le 5, 3) := by decide +kernel
theorem dX8_findNumber_115 : decode cX8_findNumber 115 = .ok (.iconst 0, 1) := by decide +kernel
theorem dX8_findNumber_116 : decode cX8_findNumber 116 = .ok (.ireturn, 1) := by decide +kernel
theorem dX8_findNumber_117 : decode cX8_findNumber 117 = .ok (.iconst 0, 1) := by decide +kernel
theorem dX8_findNumber_118 : decode cX8_findNumber 118 = .ok (.istore 5, 2) := by decide +kernel
theorem dX8_findNumber_120 : decode cX8_findNumber 120 = .ok (.iload_n 3, 1) := by decide +kernel
theorem dX8_findNumber_121 : decode cX8_findNumber 121 = .ok (.aload_n 0, 1) := by decide +kernel
theorem dX8_findNumber_122 : decode cX8_findNumber 122 = .ok (.getfield 15, 3) := by decide +kernel
theorem dX8_findNumber_125 : decode cX8_findNumber 125 = .ok (.if_icmp .ge 39, 3) := by decide +kernel
theorem dX8_findNumber_128 : decode cX8_findNumber 128 = .ok (.aload_n 0, 1) := by decide +kernel
theorem dX8_findNumber_129 : decode cX8_findNumber 129 = .ok (.getfield 9, 3) := by decide +kernel
theorem dX8_findNumber_132 : decode cX8_findNumber 132 = .ok (.iload_n 3, 1) := by decide +kernel
theorem dX8_findNumber_133 : decode cX8_findNumber 133 = .ok (.invokevirtual 30, 3) := by decide +kernel
theorem dX8_findNumber_136 : decode cX8_findNumber 136 = .ok (.invokestatic 88, 3) := by decide +kernel
theorem dX8_findNumber_139 : decode cX8_findNumber 139 = .ok (.istore 6, 2) := by decide +kernel
theorem dX8_findNumber_141 : decode cX8_findNumber 141 = .ok (.iload 6, 2) := by decide +kernel
theorem dX8_findNumber_143 : decode cX8_findNumber 143 = .ok (.iload_n 2, 1) := by decide +kernel
theorem dX8_findNumber_144 : decode cX8_findNumber 144 = .ok (.if_icmp .lt 5, 3) := by decide +kernel
theorem dX8_findNumber_147 : decode cX8_findNumber 147 = .ok (.iconst 0, 1) := by decide +kernel
theorem dX8_findNumber_148 : decode cX8_findNumber 148 = .ok (.ireturn, 1) := by decide +kernel
theorem dX8_findNumber_149 : decode cX8_findNumber 149 = .ok (.iload 5, 2) := by decide +kernel
theorem dX8_findNumber_151 : decode cX8_findNumber 151 = .ok (.iload_n 2, 1) := by decide +kernel
theorem dX8_findNumber_152 : decode cX8_findNumber 152 = .ok (.imul, 1) := by decide +kernel
theorem dX8_findNumber_153 : decode cX8_findNumber 153 = .ok (.iload 6, 2) := by decide +kernel
theorem dX8_findNumber_155 : decode cX8_findNumber 155 = .ok (.iadd, 1) := by decide +kernel
theorem dX8_findNumber_156 : decode cX8_findNumber 156 = .ok (.istore 5, 2) := by decide +kernel
theorem dX8_findNumber_158 : decode cX8_findNumber 158 = .ok (.iinc 3 1, 3) := by decide +kernel
theorem dX8_findNumber_161 : decode cX8_findNumber 161 = .ok (.goto (-41), 3) := by decide +kernel
theorem dX8_findNumber_164 : decode cX8_findNumber 164 = .ok (.aload_n 0, 1) := by decide +kernel
theorem dX8_findNumber_165 : decode cX8_findNumber 165 = .ok (.iload 4, 2) := by decide +kernel
theorem dX8_findNumber_167 : decode cX8_findNumber 167 = .ok (.ifCond .eq 9, 3) := by decide +kernel
theorem dX8_findNumber_170 : decode cX8_findNumber 170 = .ok (.iload 5, 2) := by decide +kernel
theorem dX8_findNumber_172 : decode cX8_findNumber 172 = .ok (.ineg, 1) := by decide +kernel
theorem dX8_findNumber_173 : decode cX8_findNumber 173 = .ok (.goto 5, 3) := by decide +kernel
theorem dX8_findNumber_176 : decode cX8_findNumber 176 = .ok (.iload 5, 2) := by decide +kernel
theorem dX8_findNumber_178 : decode cX8_findNumber 178 = .ok (.putfield 46, 3) := by decide +kernel
theorem dX8_findNumber_181 : decode cX8_findNumber 181 = .ok (.iconst 1, 1) := by decide +kernel
theorem dX8_findNumber_182 : decode cX8_findNumber 182 = .ok (.ireturn, 1) := by decide +kernel
theorem dX9_init_0 : decode cX9_init 0 = .ok (.aload_n 0, 1) := by decide +kernel
theorem dX9_init_1 : decode cX9_init 1 = .ok (.invokespecial 3, 3) := by decide +kernel
theorem dX9_init_4 : decode cX9_init 4 = .ok (.aload_n 0, 1) := by decide +kernel
theorem dX9_init_5 : decode cX9_init 5 = .ok (.new 9, 3) := by decide +kernel
theorem dX9_init_8 : decode cX9_init 8 = .ok (.dup, 1) := by decide +kernel
theorem dX9_init_9 : decode cX9_init 9 = .ok (.bipush 32, 2) := by decide +kernel
theorem dX9_init_11 : decode cX9_init 11 = .ok (.invokespecial 11, 3) := by decide +kernel
theorem dX9_init_14 : decode cX9_init 14 = .ok (.putfield 14, 3) := by decide +kernel
theorem dX9_init_17 : decode cX9_init 17 = .ok (.return_, 1) := by decide +kernel
theorem dX9_tell_0 : decode cX9_tell 0 = .ok (.aload_n 0, 1) := by decide +kernel
theorem dX9_tell_1 : decode cX9_tell 1 = .ok (.getfield 14, 3) := by decide +kernel
theorem dX9_tell_4 : decode cX9_tell 4 = .ok (.iconst 0, 1) := by decide +kernel
theorem dX9_tell_5 : decode cX9_tell 5 = .ok (.invokevirtual 20, 3) := by decide +kernel
theorem dX9_tell_8 : decode cX9_tell 8 = .ok (.iload_n 1, 1) := by decide +kernel
theorem dX9_tell_9 : decode cX9_tell 9 = .ok (.invokestatic 23, 3) := by decide +kernel
theorem dX9_tell_12 : decode cX9_tell 12 = .ok (.astore_n 2, 1) := by decide +kernel
theorem dX9_tell_13 : decode cX9_tell 13 = .ok (.aload_n 0, 1) := by decide +kernel
theorem dX9_tell_14 : decode cX9_tell 14 = .ok (.getfield 14, 3) := by decide +kernel
theorem dX9_tell_17 : decode cX9_tell 17 = .ok (.aload_n 2, 1) := by decide +kernel
theorem dX9_tell_18 : decode cX9_tell 18 = .ok (.getfield 27, 3) := by decide +kernel
theorem dX9_tell_21 : decode cX9_tell 21 = .ok (.invokevirtual 33, 3) := by decide +kernel
theorem dX9_tell_24 : decode cX9_tell 24 = .ok (.iconst 0, 1) := by decide +kernel
theorem dX9_tell_25 : decode cX9_tell 25 = .ok (.istore_n 3, 1) := by decide +kernel
theorem dX9_tell_26 : decode cX9_tell 26 = .ok (.iload_n 3, 1) := by decide +kernel
theorem dX9_tell_27 : decode cX9_tell 27 = .ok (.aload_n 2, 1) := by decide +kernel
theorem dX9_tell_28 : decode cX9_tell 28 = .ok (.getfield 37, 3) := by decide +kernel
theorem dX9_tell_31 : decode cX9_tell 31 = .ok (.invokevirtual 40, 3) := by decide +kernel
theorem dX9_tell_34 : decode cX9_tell 34 = .ok (.if_icmp .ge 40, 3) := by decide +kernel
theorem dX9_tell_37 : decode cX9_tell 37 = .ok (.aload_n 0, 1) := by decide +kernel
theorem dX9_tell_38 : decode cX9_tell 38 = .ok (.getfield 14, 3) := by decide +kernel
theorem dX9_tell_41 : decode cX9_tell 41 = .ok (.iload_n 3, 1) := by decide +kernel
theorem dX9_tell_42 : decode cX9_tell 42 = .ok (.ifCond .ne 8, 3) := by decide +kernel
theorem dX9_tell_45 : decode cX9_tell 45 = .ok (.ldc 46, 2) := by decide +kernel
theorem dX9_tell_47 : decode cX9_tell 47 = .ok (.goto 5, 3) := by decide +kernel
theorem dX9_tell_50 : decode cX9_tell 50 = .ok (.ldc 48, 2) := by decide +kernel
theorem dX9_tell_52 : decode cX9_tell 52 = .ok (.invokevirtual 33, 3) := by decide +kernel
theorem dX9_tell_55 : decode cX9_tell 55 = .ok (.aload_n 0, 1) := by decide +kernel
theorem dX9_tell_56 : decode cX9_tell 56 = .ok (.aload_n 2, 1) := by decide +kernel
theorem dX9_tell_57 : decode cX9_tell 57 = .ok (.getfield 37, 3) := by decide +kernel
theorem dX9_tell_60 : decode cX9_tell 60 = .ok (.iload_n 3, 1) := by decide +kernel
theorem dX9_tell_61 : decode cX9_tell 61 = .ok (.invokevirtual 50, 3) := by decide +kernel
theorem dX9_tell_64 : decode cX9_tell 64 = .ok (.iload_n 1, 1) := by decide +kernel
theorem dX9_tell_65 : decode cX9_tell 65 = .ok (.invokevirtual 54, 3) := by decide +kernel
theorem dX9_tell_68 : decode cX9_tell 68 = .ok (.iinc 3 1, 3) := by decide +kernel
theorem dX9_tell_71 : decode cX9_tell 71 = .ok (.goto (-45), 3) := by decide +kernel
theorem dX9_tell_74 : decode cX9_tell 74 = .ok (.return_, 1) := by decide +kernel
theorem dX9_opOf_0 : decode cX9_opOf 0 = .ok (.iconst 0, 1) := by decide +kernel
theorem dX9_opOf_1 : decode cX9_opOf 1 = .ok (.istore_n 1, 1) := by decide +kernel
theorem dX9_opOf_2 : decode cX9_opOf 2 = .ok (.iload_n 1, 1) := by decide +kernel
theorem dX9_opOf_3 : decode cX9_opOf 3 = .ok (.getstatic 58, 3) := by decide +kernel
theorem dX9_opOf_6 : decode cX9_opOf 6 = .ok (.arraylength, 1) := by decide +kernel
theorem dX9_opOf_7 : decode cX9_opOf 7 = .ok (.if_icmp .ge 27, 3) := by decide +kernel
theorem dX9_opOf_10 : decode cX9_opOf 10 = .ok (.getstatic 58, 3) := by decide +kernel
theorem dX9_opOf_13 : decode cX9_opOf 13 = .ok (.iload_n 1, 1) := by decide +kernel
theorem dX9_opOf_14 : decode cX9_opOf 14 = .ok (.aaload, 1) := by decide +kernel
theorem dX9_opOf_15 : decode cX9_opOf 15 = .ok (.iload_n 0, 1) := by decide +kernel
theorem dX9_opOf_16 : decode cX9_opOf 16 = .ok (.invokevirtual 62, 3) := by decide +kernel
theorem dX9_opOf_19 : decode cX9_opOf 19 = .ok (.ifCond .eq 9, 3) := by decide +kernel
theorem dX9_opOf_22 : decode cX9_opOf 22 = .ok (.getstatic 58, 3) := by decide +kernel
theorem dX9_opOf_25 : decode cX9_opOf 25 = .ok (.iload_n 1, 1) := by decide +kernel
theorem dX9_opOf_26 : decode cX9_opOf 26 = .ok (.aaload, 1) := by decide +kernel
theorem dX9_opOf_27 : decode cX9_opOf 27 = .ok (.areturn, 1) := by decide +kernel
theorem dX9_opOf_28 : decode cX9_opOf 28 = .ok (.iinc 1 1, 3) := by decide +kernel
theorem dX9_opOf_31 : decode cX9_opOf 31 = .ok (.goto (-29), 3) := by decide +kernel
theorem dX9_opOf_34 : decode cX9_opOf 34 = .ok (.getstatic 66, 3) := by decide +kernel
theorem dX9_opOf_37 : decode cX9_opOf 37 = .ok (.areturn, 1) := by decide +kernel
theorem dX9_tellOperand_0 : decode cX9_tellOperand 0 = .ok (.iload_n 1, 1) := by decide +kernel
theorem dX9_tellOperand_1 : decode cX9_tellOperand 1 = .ok (.tableswitch 213 65 87 #[121, 213, 213, 107, 213, 213, 213, 213, 213, 191, 213, 213, 213, 213, 165, 213, 213, 213, 135, 213, 213, 204, 178], 107) := by decide +kernel
theorem dX9_tellOperand_108 : decode cX9_tellOperand 108 = .ok (.aload_n 0, 1) := by decide +kernel
theorem dX9_tellOperand_109 : decode cX9_tellOperand 109 = .ok (.iload_n 2, 1) := by decide +kernel
theorem dX9_tellOperand_110 : decode cX9_tellOperand 110 = .ok (.bipush 9, 2) := by decide +kernel
theorem dX9_tellOperand_112 : decode cX9_tellOperand 112 = .ok (.ishr, 1) := by decide +kernel
theorem dX9_tellOperand_113 : decode cX9_tellOperand 113 = .ok (.bipush 7, 2) := by decide +kernel
theorem dX9_tellOperand_115 : decode cX9_tellOperand 115 = .ok (.iand, 1) := by decide +kernel
theorem dX9_tellOperand_116 : decode cX9_tellOperand 116 = .ok (.invokevirtual 70, 3) := by decide +kernel
theorem dX9_tellOperand_119 : decode cX9_tellOperand 119 = .ok (.goto 101, 3) := by decide +kernel
theorem dX9_tellOperand_122 : decode cX9_tellOperand 122 = .ok (.aload_n 0, 1) := by decide +kernel
theorem dX9_tellOperand_123 : decode cX9_tellOperand 123 = .ok (.iload_n 2, 1) := by decide +kernel
theorem dX9_tellOperand_124 : decode cX9_tellOperand 124 = .ok (.bipush 6, 2) := by decide +kernel
theorem dX9_tellOperand_126 : decode cX9_tellOperand 126 = .ok (.ishr, 1) := by decide +kernel
theorem dX9_tellOperand_127 : decode cX9_tellOperand 127 = .ok (.bipush 7, 2) := by decide +kernel
theorem dX9_tellOperand_129 : decode cX9_tellOperand 129 = .ok (.iand, 1) := by decide +kernel
theorem dX9_tellOperand_130 : decode cX9_tellOperand 130 = .ok (.invokevirtual 70, 3) := by decide +kernel
theorem dX9_tellOperand_133 : decode cX9_tellOperand 133 = .ok (.goto 87, 3) := by decide +kernel
theorem dX9_tellOperand_136 : decode cX9_tellOperand 136 = .ok (.iload_n 2, 1) := by decide +kernel
theorem dX9_tellOperand_137 : decode cX9_tellOperand 137 = .ok (.bipush 32, 2) := by decide +kernel
theorem dX9_tellOperand_139 : decode cX9_tellOperand 139 = .ok (.iand, 1) := by decide +kernel
theorem dX9_tellOperand_140 : decode cX9_tellOperand 140 = .ok (.ifCond .eq 15, 3) := by decide +kernel
theorem dX9_tellOperand_143 : decode cX9_tellOperand 143 = .ok (.aload_n 0, 1) := by decide +kernel
theorem dX9_tellOperand_144 : decode cX9_tellOperand 144 = .ok (.iload_n 2, 1) := by decide +kernel
theorem dX9_tellOperand_145 : decode cX9_tellOperand 145 = .ok (.iconst 5, 1) := by decide +kernel
theorem dX9_tellOperand_146 : decode cX9_tellOperand 146 = .ok (.invokestatic 73, 3) := by decide +kernel
theorem dX9_tellOperand_149 : decode cX9_tellOperand 149 = .ok (.invokevirtual 77, 3) := by decide +kernel
theorem dX9_tellOperand_152 : decode cX9_tellOperand 152 = .ok (.goto 68, 3) := by decide +kernel
theorem dX9_tellOperand_155 : decode cX9_tellOperand 155 = .ok (.aload_n 0, 1) := by decide +kernel
theorem dX9_tellOperand_156 : decode cX9_tellOperand 156 = .ok (.iload_n 2, 1) := by decide +kernel
theorem dX9_tellOperand_157 : decode cX9_tellOperand 157 = .ok (.bipush 7, 2) := by decide +kernel
theorem dX9_tellOperand_159 : decode cX9_tellOperand 159 = .ok (.iand, 1) := by decide +kernel
theorem dX9_tellOperand_160 : decode cX9_tellOperand 160 = .ok (.invokevirtual 70, 3) := by decide +kernel
theorem dX9_tellOperand_163 : decode cX9_tellOperand 163 = .ok (.goto 57, 3) := by decide +kernel
theorem dX9_tellOperand_166 : decode cX9_tellOperand 166 = .ok (.aload_n 0, 1) := by decide +kernel
theorem dX9_tellOperand_167 : decode cX9_tellOperand 167 = .ok (.iload_n 2, 1) := by decide +kernel
theorem dX9_tellOperand_168 : decode cX9_tellOperand 168 = .ok (.bipush 6, 2) := by decide +kernel
theorem dX9_tellOperand_170 : decode cX9_tellOperand 170 = .ok (.invokestatic 73, 3) := by decide +kernel
theorem dX9_tellOperand_173 : decode cX9_tellOperand 173 = .ok (.invokevirtual 77, 3) := by decide +kernel
theorem dX9_tellOperand_176 : decode cX9_tellOperand 176 = .ok (.goto 44, 3) := by decide +kernel
theorem dX9_tellOperand_179 : decode cX9_tellOperand 179 = .ok (.aload_n 0, 1) := by decide +kernel
theorem dX9_tellOperand_180 : decode cX9_tellOperand 180 = .ok (.iload_n 2, 1) := by decide +kernel
theorem dX9_tellOperand_181 : decode cX9_tellOperand 181 = .ok (.bipush 9, 2) := by decide +kernel
theorem dX9_tellOperand_183 : decode cX9_tellOperand 183 = .ok (.invokestatic 73, 3) := by decide +kernel
theorem dX9_tellOperand_186 : decode cX9_tellOperand 186 = .ok (.invokevirtual 77, 3) := by decide +kernel
theorem dX9_tellOperand_189 : decode cX9_tellOperand 189 = .ok (.goto 31, 3) := by decide +kernel
theorem dX9_tellOperand_192 : decode cX9_tellOperand 192 = .ok (.aload_n 0, 1) := by decide +kernel
theorem dX9_tellOperand_193 : decode cX9_tellOperand 193 = .ok (.iload_n 2, 1) := by decide +kernel
theorem dX9_tellOperand_194 : decode cX9_tellOperand 194 = .ok (.bipush 11, 2) := by decide +kernel
theorem dX9_tellOperand_196 : decode cX9_tellOperand 196 = .ok (.invokestatic 73, 3) := by decide +kernel
theorem dX9_tellOperand_199 : decode cX9_tellOperand 199 = .ok (.invokevirtual 77, 3) := by decide +kernel
theorem dX9_tellOperand_202 : decode cX9_tellOperand 202 = .ok (.goto 18, 3) := by decide +kernel
theorem dX9_tellOperand_205 : decode cX9_tellOperand 205 = .ok (.aload_n 0, 1) := by decide +kernel
theorem dX9_tellOperand_206 : decode cX9_tellOperand 206 = .ok (.iload_n 2, 1) := by decide +kernel
theorem dX9_tellOperand_207 : decode cX9_tellOperand 207 = .ok (.iconst 2, 1) := by decide +kernel
theorem dX9_tellOperand_208 : decode cX9_tellOperand 208 = .ok (.invokevirtual 80, 3) := by decide +kernel
theorem dX9_tellOperand_211 : decode cX9_tellOperand 211 = .ok (.goto 9, 3) := by decide +kernel
theorem dX9_tellOperand_214 : decode cX9_tellOperand 214 = .ok (.aload_n 0, 1) := by decide +kernel
theorem dX9_tellOperand_215 : decode cX9_tellOperand 215 = .ok (.iload_n 2, 1) := by decide +kernel
theorem dX9_tellOperand_216 : decode cX9_tellOperand 216 = .ok (.iconst 4, 1) := by decide +kernel
theorem dX9_tellOperand_217 : decode cX9_tellOperand 217 = .ok (.invokevirtual 80, 3) := by decide +kernel
theorem dX9_tellOperand_220 : decode cX9_tellOperand 220 = .ok (.return_, 1) := by decide +kernel
theorem dX9_tellRegister_0 : decode cX9_tellRegister 0 = .ok (.aload_n 0, 1) := by decide +kernel
theorem dX9_tellRegister_1 : decode cX9_tellRegister 1 = .ok (.getfield 14, 3) := by decide +kernel
theorem dX9_tellRegister_4 : decode cX9_tellRegister 4 = .ok (.bipush 82, 2) := by decide +kernel
theorem dX9_tellRegister_6 : decode cX9_tellRegister 6 = .ok (.invokevirtual 84, 3) := by decide +kernel
theorem dX9_tellRegister_9 : decode cX9_tellRegister 9 = .ok (.aload_n 0, 1) := by decide +kernel
theorem dX9_tellRegister_10 : decode cX9_tellRegister 10 = .ok (.getfield 14, 3) := by decide +kernel
theorem dX9_tellRegister_13 : decode cX9_tellRegister 13 = .ok (.bipush 48, 2) := by decide +kernel
theorem dX9_tellRegister_15 : decode cX9_tellRegister 15 = .ok (.iload_n 1, 1) := by decide +kernel
theorem dX9_tellRegister_16 : decode cX9_tellRegister 16 = .ok (.iadd, 1) := by decide +kernel
theorem dX9_tellRegister_17 : decode cX9_tellRegister 17 = .ok (.invokevirtual 84, 3) := by decide +kernel
theorem dX9_tellRegister_20 : decode cX9_tellRegister 20 = .ok (.return_, 1) := by decide +kernel
theorem dX9_tellNumber_0 : decode cX9_tellNumber 0 = .ok (.aload_n 0, 1) := by decide +kernel
theorem dX9_tellNumber_1 : decode cX9_tellNumber 1 = .ok (.getfield 14, 3) := by decide +kernel
theorem dX9_tellNumber_4 : decode cX9_tellNumber 4 = .ok (.iload_n 1, 1) := by decide +kernel
theorem dX9_tellNumber_5 : decode cX9_tellNumber 5 = .ok (.ifCond .ge 8, 3) := by decide +kernel
theorem dX9_tellNumber_8 : decode cX9_tellNumber 8 = .ok (.ldc 87, 2) := by decide +kernel
theorem dX9_tellNumber_10 : decode cX9_tellNumber 10 = .ok (.goto 5, 3) := by decide +kernel
theorem dX9_tellNumber_13 : decode cX9_tellNumber 13 = .ok (.ldc 89, 2) := by decide +kernel
theorem dX9_tellNumber_15 : decode cX9_tellNumber 15 = .ok (.invokevirtual 33, 3) := by decide +kernel
theorem dX9_tellNumber_18 : decode cX9_tellNumber 18 = .ok (.iload_n 1, 1) := by decide +kernel
theorem dX9_tellNumber_19 : decode cX9_tellNumber 19 = .ok (.ifCond .ge 8, 3) := by decide +kernel
theorem dX9_tellNumber_22 : decode cX9_tellNumber 22 = .ok (.iload_n 1, 1) := by decide +kernel
theorem dX9_tellNumber_23 : decode cX9_tellNumber 23 = .ok (.ineg, 1) := by decide +kernel
theorem dX9_tellNumber_24 : decode cX9_tellNumber 24 = .ok (.goto 4, 3) := by decide +kernel
theorem dX9_tellNumber_27 : decode cX9_tellNumber 27 = .ok (.iload_n 1, 1) := by decide +kernel
theorem dX9_tellNumber_28 : decode cX9_tellNumber 28 = .ok (.istore_n 2, 1) := by decide +kernel
theorem dX9_tellNumber_29 : decode cX9_tellNumber 29 = .ok (.iconst 1, 1) := by decide +kernel
theorem dX9_tellNumber_30 : decode cX9_tellNumber 30 = .ok (.istore_n 3, 1) := by decide +kernel
theorem dX9_tellNumber_31 : decode cX9_tellNumber 31 = .ok (.iload_n 3, 1) := by decide +kernel
theorem dX9_tellNumber_32 : decode cX9_tellNumber 32 = .ok (.sipush 1000, 3) := by decide +kernel
theorem dX9_tellNumber_35 : decode cX9_tellNumber 35 = .ok (.if_icmp .ge 19, 3) := by decide +kernel
theorem dX9_tellNumber_38 : decode cX9_tellNumber 38 = .ok (.iload_n 3, 1) := by decide +kernel
theorem dX9_tellNumber_39 : decode cX9_tellNumber 39 = .ok (.bipush 10, 2) := by decide +kernel
theorem dX9_tellNumber_41 : decode cX9_tellNumber 41 = .ok (.imul, 1) := by decide +kernel
theorem dX9_tellNumber_42 : decode cX9_tellNumber 42 = .ok (.iload_n 2, 1) := by decide +kernel
theorem dX9_tellNumber_43 : decode cX9_tellNumber 43 = .ok (.if_icmp .gt 11, 3) := by decide +kernel
theorem dX9_tellNumber_46 : decode cX9_tellNumber 46 = .ok (.iload_n 3, 1) := by decide +kernel
theorem dX9_tellNumber_47 : decode cX9_tellNumber 47 = .ok (.bipush 10, 2) := by decide +kernel
theorem dX9_tellNumber_49 : decode cX9_tellNumber 49 = .ok (.imul, 1) := by decide +kernel
theorem dX9_tellNumber_50 : decode cX9_tellNumber 50 = .ok (.istore_n 3, 1) := by decide +kernel
theorem dX9_tellNumber_51 : decode cX9_tellNumber 51 = .ok (.goto (-20), 3) := by decide +kernel
theorem dX9_tellNumber_54 : decode cX9_tellNumber 54 = .ok (.iload_n 3, 1) := by decide +kernel
theorem dX9_tellNumber_55 : decode cX9_tellNumber 55 = .ok (.ifCond .le 27, 3) := by decide +kernel
theorem dX9_tellNumber_58 : decode cX9_tellNumber 58 = .ok (.aload_n 0, 1) := by decide +kernel
theorem dX9_tellNumber_59 : decode cX9_tellNumber 59 = .ok (.getfield 14, 3) := by decide +kernel
theorem dX9_tellNumber_62 : decode cX9_tellNumber 62 = .ok (.bipush 48, 2) := by decide +kernel
theorem dX9_tellNumber_64 : decode cX9_tellNumber 64 = .ok (.iload_n 2, 1) := by decide +kernel
theorem dX9_tellNumber_65 : decode cX9_tellNumber 65 = .ok (.iload_n 3, 1) := by decide +kernel
theorem dX9_tellNumber_66 : decode cX9_tellNumber 66 = .ok (.idiv, 1) := by decide +kernel
theorem dX9_tellNumber_67 : decode cX9_tellNumber 67 = .ok (.bipush 10, 2) := by decide +kernel
theorem dX9_tellNumber_69 : decode cX9_tellNumber 69 = .ok (.irem, 1) := by decide +kernel
theorem dX9_tellNumber_70 : decode cX9_tellNumber 70 = .ok (.iadd, 1) := by decide +kernel
theorem dX9_tellNumber_71 : decode cX9_tellNumber 71 = .ok (.invokevirtual 84, 3) := by decide +kernel
theorem dX9_tellNumber_74 : decode cX9_tellNumber 74 = .ok (.iload_n 3, 1) := by decide +kernel
theorem dX9_tellNumber_75 : decode cX9_tellNumber 75 = .ok (.bipush 10, 2) := by decide +kernel
theorem dX9_tellNumber_77 : decode cX9_tellNumber 77 = .ok (.idiv, 1) := by decide +kernel
theorem dX9_tellNumber_78 : decode cX9_tellNumber 78 = .ok (.istore_n 3, 1) := by decide +kernel
theorem dX9_tellNumber_79 : decode cX9_tellNumber 79 = .ok (.goto (-25), 3) := by decide +kernel
theorem dX9_tellNumber_82 : decode cX9_tellNumber 82 = .ok (.return_, 1) := by decide +kernel
theorem dX9_tellHexadecimals_0 : decode cX9_tellHexadecimals 0 = .ok (.aload_n 0, 1) := by decide +kernel
theorem dX9_tellHexadecimals_1 : decode cX9_tellHexadecimals 1 = .ok (.getfield 14, 3) := by decide +kernel
theorem dX9_tellHexadecimals_4 : decode cX9_tellHexadecimals 4 = .ok (.bipush 120, 2) := by decide +kernel
theorem dX9_tellHexadecimals_6 : decode cX9_tellHexadecimals 6 = .ok (.invokevirtual 84, 3) := by decide +kernel
theorem dX9_tellHexadecimals_9 : decode cX9_tellHexadecimals 9 = .ok (.iload_n 2, 1) := by decide +kernel
theorem dX9_tellHexadecimals_10 : decode cX9_tellHexadecimals 10 = .ok (.iconst 1, 1) := by decide +kernel
theorem dX9_tellHexadecimals_11 : decode cX9_tellHexadecimals 11 = .ok (.isub, 1) := by decide +kernel
theorem dX9_tellHexadecimals_12 : decode cX9_tellHexadecimals 12 = .ok (.istore_n 3, 1) := by decide +kernel
theorem dX9_tellHexadecimals_13 : decode cX9_tellHexadecimals 13 = .ok (.iload_n 3, 1) := by decide +kernel
theorem dX9_tellHexadecimals_14 : decode cX9_tellHexadecimals 14 = .ok (.ifCond .lt 29, 3) := by decide +kernel
theorem dX9_tellHexadecimals_17 : decode cX9_tellHexadecimals 17 = .ok (.aload_n 0, 1) := by decide +kernel
theorem dX9_tellHexadecimals_18 : decode cX9_tellHexadecimals 18 = .ok (.getfield 14, 3) := by decide +kernel
theorem dX9_tellHexadecimals_21 : decode cX9_tellHexadecimals 21 = .ok (.ldc 91, 2) := by decide +kernel
theorem dX9_tellHexadecimals_23 : decode cX9_tellHexadecimals 23 = .ok (.iload_n 1, 1) := by decide +kernel
theorem dX9_tellHexadecimals_24 : decode cX9_tellHexadecimals 24 = .ok (.iconst 4, 1) := by decide +kernel
theorem dX9_tellHexadecimals_25 : decode cX9_tellHexadecimals 25 = .ok (.iload_n 3, 1) := by decide +kernel
theorem dX9_tellHexadecimals_26 : decode cX9_tellHexadecimals 26 = .ok (.imul, 1) := by decide +kernel
theorem dX9_tellHexadecimals_27 : decode cX9_tellHexadecimals 27 = .ok (.ishr, 1) := by decide +kernel
theorem dX9_tellHexadecimals_28 : decode cX9_tellHexadecimals 28 = .ok (.bipush 15, 2) := by decide +kernel
theorem dX9_tellHexadecimals_30 : decode cX9_tellHexadecimals 30 = .ok (.iand, 1) := by decide +kernel
theorem dX9_tellHexadecimals_31 : decode cX9_tellHexadecimals 31 = .ok (.invokevirtual 50, 3) := by decide +kernel
theorem dX9_tellHexadecimals_34 : decode cX9_tellHexadecimals 34 = .ok (.invokevirtual 84, 3) := by decide +kernel
theorem dX9_tellHexadecimals_37 : decode cX9_tellHexadecimals 37 = .ok (.iinc 3 (-1), 3) := by decide +kernel
theorem dX9_tellHexadecimals_40 : decode cX9_tellHexadecimals 40 = .ok (.goto (-27), 3) := by decide +kernel
theorem dX9_tellHexadecimals_43 : decode cX9_tellHexadecimals 43 = .ok (.return_, 1) := by decide +kernel
theorem dX10_init_0 : decode cX10_init 0 = .ok (.aload_n 0, 1) := by decide +kernel
theorem dX10_init_1 : decode cX10_init 1 = .ok (.invokespecial 3, 3) := by decide +kernel
theorem dX10_init_4 : decode cX10_init 4 = .ok (.aload_n 0, 1) := by decide +kernel
theorem dX10_init_5 : decode cX10_init 5 = .ok (.new 9, 3) := by decide +kernel
theorem dX10_init_8 : decode cX10_init 8 = .ok (.dup, 1) := by decide +kernel
theorem dX10_init_9 : decode cX10_init 9 = .ok (.sipush 4000, 3) := by decide +kernel
theorem dX10_init_12 : decode cX10_init 12 = .ok (.invokespecial 11, 3) := by decide +kernel
theorem dX10_init_15 : decode cX10_init 15 = .ok (.putfield 14, 3) := by decide +kernel
theorem dX10_init_18 : decode cX10_init 18 = .ok (.aload_n 0, 1) := by decide +kernel
theorem dX10_init_19 : decode cX10_init 19 = .ok (.new 18, 3) := by decide +kernel
theorem dX10_init_22 : decode cX10_init 22 = .ok (.dup, 1) := by decide +kernel
theorem dX10_init_23 : decode cX10_init 23 = .ok (.aload_n 0, 1) := by decide +kernel
theorem dX10_init_24 : decode cX10_init 24 = .ok (.getfield 14, 3) := by decide +kernel
theorem dX10_init_27 : decode cX10_init 27 = .ok (.invokespecial 20, 3) := by decide +kernel
theorem dX10_init_30 : decode cX10_init 30 = .ok (.putfield 23, 3) := by decide +kernel
theorem dX10_init_33 : decode cX10_init 33 = .ok (.aload_n 0, 1) := by decide +kernel
theorem dX10_init_34 : decode cX10_init 34 = .ok (.new 27, 3) := by decide +kernel
theorem dX10_init_37 : decode cX10_init 37 = .ok (.dup, 1) := by decide +kernel
theorem dX10_init_38 : decode cX10_init 38 = .ok (.invokespecial 29, 3) := by decide +kernel
theorem dX10_init_41 : decode cX10_init 41 = .ok (.putfield 30, 3) := by decide +kernel
theorem dX10_init_44 : decode cX10_init 44 = .ok (.aload_n 0, 1) := by decide +kernel
theorem dX10_init_45 : decode cX10_init 45 = .ok (.new 34, 3) := by decide +kernel
theorem dX10_init_48 : decode cX10_init 48 = .ok (.dup, 1) := by decide +kernel
theorem dX10_init_49 : decode cX10_init 49 = .ok (.invokespecial 36, 3) := by decide +kernel
theorem dX10_init_52 : decode cX10_init 52 = .ok (.putfield 37, 3) := by decide +kernel
theorem dX10_init_55 : decode cX10_init 55 = .ok (.return_, 1) := by decide +kernel
theorem dX10_feed_0 : decode cX10_feed 0 = .ok (.aload_n 0, 1) := by decide +kernel
theorem dX10_feed_1 : decode cX10_feed 1 = .ok (.getfield 14, 3) := by decide +kernel
theorem dX10_feed_4 : decode cX10_feed 4 = .ok (.bipush 20, 2) := by decide +kernel
theorem dX10_feed_6 : decode cX10_feed 6 = .ok (.invokevirtual 41, 3) := by decide +kernel
theorem dX10_feed_9 : decode cX10_feed 9 = .ok (.ifCond .ne 5, 3) := by decide +kernel
theorem dX10_feed_12 : decode cX10_feed 12 = .ok (.iconst (-1), 1) := by decide +kernel
theorem dX10_feed_13 : decode cX10_feed 13 = .ok (.ireturn, 1) := by decide +kernel
theorem dX10_feed_14 : decode cX10_feed 14 = .ok (.aload_n 0, 1) := by decide +kernel
theorem dX10_feed_15 : decode cX10_feed 15 = .ok (.getfield 14, 3) := by decide +kernel
theorem dX10_feed_18 : decode cX10_feed 18 = .ok (.iload_n 1, 1) := by decide +kernel
theorem dX10_feed_19 : decode cX10_feed 19 = .ok (.invokevirtual 45, 3) := by decide +kernel
theorem dX10_feed_22 : decode cX10_feed 22 = .ok (.aload_n 0, 1) := by decide +kernel
theorem dX10_feed_23 : decode cX10_feed 23 = .ok (.getfield 14, 3) := by decide +kernel
theorem dX10_feed_26 : decode cX10_feed 26 = .ok (.iload_n 2, 1) := by decide +kernel
theorem dX10_feed_27 : decode cX10_feed 27 = .ok (.invokevirtual 45, 3) := by decide +kernel
theorem dX10_feed_30 : decode cX10_feed 30 = .ok (.aload_n 0, 1) := by decide +kernel
theorem dX10_feed_31 : decode cX10_feed 31 = .ok (.getfield 14, 3) := by decide +kernel
theorem dX10_feed_34 : decode cX10_feed 34 = .ok (.iload_n 3, 1) := by decide +kernel
theorem dX10_feed_35 : decode cX10_feed 35 = .ok (.invokevirtual 45, 3) := by decide +kernel
theorem dX10_feed_38 : decode cX10_feed 38 = .ok (.aload_n 0, 1) := by decide +kernel
theorem dX10_feed_39 : decode cX10_feed 39 = .ok (.getfield 14, 3) := by decide +kernel
theorem dX10_feed_42 : decode cX10_feed 42 = .ok (.iload 4, 2) := by decide +kernel
theorem dX10_feed_44 : decode cX10_feed 44 = .ok (.invokevirtual 45, 3) := by decide +kernel
theorem dX10_feed_47 : decode cX10_feed 47 = .ok (.aload_n 0, 1) := by decide +kernel
theorem dX10_feed_48 : decode cX10_feed 48 = .ok (.getfield 14, 3) := by decide +kernel
theorem dX10_feed_51 : decode cX10_feed 51 = .ok (.iload 5, 2) := by decide +kernel
theorem dX10_feed_53 : decode cX10_feed 53 = .ok (.invokevirtual 45, 3) := by decide +kernel
theorem dX10_feed_56 : decode cX10_feed 56 = .ok (.aload_n 0, 1) := by decide +kernel
theorem dX10_feed_57 : decode cX10_feed 57 = .ok (.getfield 14, 3) := by decide +kernel
theorem dX10_feed_60 : decode cX10_feed 60 = .ok (.getfield 48, 3) := by decide +kernel
theorem dX10_feed_63 : decode cX10_feed 63 = .ok (.ireturn, 1) := by decide +kernel
theorem dX10_end_0 : decode cX10_end 0 = .ok (.iload_n 1, 1) := by decide +kernel
theorem dX10_end_1 : decode cX10_end 1 = .ok (.ifCond .lt 14, 3) := by decide +kernel
theorem dX10_end_4 : decode cX10_end 4 = .ok (.iload_n 1, 1) := by decide +kernel
theorem dX10_end_5 : decode cX10_end 5 = .ok (.aload_n 0, 1) := by decide +kernel
theorem dX10_end_6 : decode cX10_end 6 = .ok (.getfield 14, 3) := by decide +kernel
theorem dX10_end_9 : decode cX10_end 9 = .ok (.getfield 48, 3) := by decide +kernel
theorem dX10_end_12 : decode cX10_end 12 = .ok (.if_icmp .le 5, 3) := by decide +kernel
theorem dX10_end_15 : decode cX10_end 15 = .ok (.iconst 0, 1) := by decide +kernel
theorem dX10_end_16 : decode cX10_end 16 = .ok (.ireturn, 1) := by decide +kernel
theorem dX10_end_17 : decode cX10_end 17 = .ok (.aload_n 0, 1) := by decide +kernel
theorem dX10_end_18 : decode cX10_end 18 = .ok (.getfield 14, 3) := by decide +kernel
theorem dX10_end_21 : decode cX10_end 21 = .ok (.iload_n 1, 1) := by decide +kernel
theorem dX10_end_22 : decode cX10_end 22 = .ok (.invokevirtual 52, 3) := by decide +kernel
theorem dX10_end_25 : decode cX10_end 25 = .ok (.iconst 1, 1) := by decide +kernel
theorem dX10_end_26 : decode cX10_end 26 = .ok (.ireturn, 1) := by decide +kernel
theorem dX10_assemble_0 : decode cX10_assemble 0 = .ok (.aload_n 0, 1) := by decide +kernel
theorem dX10_assemble_1 : decode cX10_assemble 1 = .ok (.getfield 23, 3) := by decide +kernel
theorem dX10_assemble_4 : decode cX10_assemble 4 = .ok (.invokevirtual 55, 3) := by decide +kernel
theorem dX10_assemble_7 : decode cX10_assemble 7 = .ok (.ireturn, 1) := by decide +kernel
theorem dX10_told_0 : decode cX10_told 0 = .ok (.iload_n 1, 1) := by decide +kernel
theorem dX10_told_1 : decode cX10_told 1 = .ok (.tableswitch 84 0 4 #[35, 43, 51, 62, 73], 35) := by decide +kernel
theorem dX10_told_36 : decode cX10_told 36 = .ok (.aload_n 0, 1) := by decide +kernel
theorem dX10_told_37 : decode cX10_told 37 = .ok (.getfield 23, 3) := by decide +kernel
theorem dX10_told_40 : decode cX10_told 40 = .ok (.getfield 59, 3) := by decide +kernel
theorem dX10_told_43 : decode cX10_told 43 = .ok (.ireturn, 1) := by decide +kernel
theorem dX10_told_44 : decode cX10_told 44 = .ok (.aload_n 0, 1) := by decide +kernel
theorem dX10_told_45 : decode cX10_told 45 = .ok (.getfield 23, 3) := by decide +kernel
theorem dX10_told_48 : decode cX10_told 48 = .ok (.getfield 62, 3) := by decide +kernel
theorem dX10_told_51 : decode cX10_told 51 = .ok (.ireturn, 1) := by decide +kernel
theorem dX10_told_52 : decode cX10_told 52 = .ok (.aload_n 0, 1) := by decide +kernel
theorem dX10_told_53 : decode cX10_told 53 = .ok (.getfield 23, 3) := by decide +kernel
theorem dX10_told_56 : decode cX10_told 56 = .ok (.getfield 65, 3) := by decide +kernel
theorem dX10_told_59 : decode cX10_told 59 = .ok (.getfield 69, 3) := by decide +kernel
theorem dX10_told_62 : decode cX10_told 62 = .ok (.ireturn, 1) := by decide +kernel
theorem dX10_told_63 : decode cX10_told 63 = .ok (.aload_n 0, 1) := by decide +kernel
theorem dX10_told_64 : decode cX10_told 64 = .ok (.getfield 23, 3) := by decide +kernel
theorem dX10_told_67 : decode cX10_told 67 = .ok (.getfield 65, 3) := by decide +kernel
theorem dX10_told_70 : decode cX10_told 70 = .ok (.getfield 74, 3) := by decide +kernel
theorem dX10_told_73 : decode cX10_told 73 = .ok (.ireturn, 1) := by decide +kernel
theorem dX10_told_74 : decode cX10_told 74 = .ok (.aload_n 0, 1) := by decide +kernel
theorem dX10_told_75 : decode cX10_told 75 = .ok (.getfield 23, 3) := by decide +kernel
theorem dX10_told_78 : decode cX10_told 78 = .ok (.getfield 65, 3) := by decide +kernel
theorem dX10_told_81 : decode cX10_told 81 = .ok (.getfield 77, 3) := by decide +kernel
theorem dX10_told_84 : decode cX10_told 84 = .ok (.ireturn, 1) := by decide +kernel
theorem dX10_told_85 : decode cX10_told 85 = .ok (.new 80, 3) := by decide +kernel
theorem dX10_told_88 : decode cX10_told 88 = .ok (.dup, 1) := by decide +kernel
theorem dX10_told_89 : decode cX10_told 89 = .ok (.ldc 82, 2) := by decide +kernel
theorem dX10_told_91 : decode cX10_told 91 = .ok (.invokespecial 84, 3) := by decide +kernel
theorem dX10_told_94 : decode cX10_told 94 = .ok (.athrow, 1) := by decide +kernel
theorem dX10_word_0 : decode cX10_word 0 = .ok (.aload_n 0, 1) := by decide +kernel
theorem dX10_word_1 : decode cX10_word 1 = .ok (.getfield 23, 3) := by decide +kernel
theorem dX10_word_4 : decode cX10_word 4 = .ok (.getfield 65, 3) := by decide +kernel
theorem dX10_word_7 : decode cX10_word 7 = .ok (.astore_n 2, 1) := by decide +kernel
theorem dX10_word_8 : decode cX10_word 8 = .ok (.iload_n 1, 1) := by decide +kernel
theorem dX10_word_9 : decode cX10_word 9 = .ok (.ifCond .lt 11, 3) := by decide +kernel
theorem dX10_word_12 : decode cX10_word 12 = .ok (.iload_n 1, 1) := by decide +kernel
theorem dX10_word_13 : decode cX10_word 13 = .ok (.aload_n 2, 1) := by decide +kernel
theorem dX10_word_14 : decode cX10_word 14 = .ok (.getfield 69, 3) := by decide +kernel
theorem dX10_word_17 : decode cX10_word 17 = .ok (.if_icmp .lt 13, 3) := by decide +kernel
theorem dX10_word_20 : decode cX10_word 20 = .ok (.new 80, 3) := by decide +kernel
theorem dX10_word_23 : decode cX10_word 23 = .ok (.dup, 1) := by decide +kernel
theorem dX10_word_24 : decode cX10_word 24 = .ok (.ldc 87, 2) := by decide +kernel
theorem dX10_word_26 : decode cX10_word 26 = .ok (.invokespecial 84, 3) := by decide +kernel
theorem dX10_word_29 : decode cX10_word 29 = .ok (.athrow, 1) := by decide +kernel
theorem dX10_word_30 : decode cX10_word 30 = .ok (.aload_n 2, 1) := by decide +kernel
theorem dX10_word_31 : decode cX10_word 31 = .ok (.getfield 89, 3) := by decide +kernel
theorem dX10_word_34 : decode cX10_word 34 = .ok (.iload_n 1, 1) := by decide +kernel
theorem dX10_word_35 : decode cX10_word 35 = .ok (.iaload, 1) := by decide +kernel
theorem dX10_word_36 : decode cX10_word 36 = .ok (.ireturn, 1) := by decide +kernel
theorem dX10_label_0 : decode cX10_label 0 = .ok (.aload_n 0, 1) := by decide +kernel
theorem dX10_label_1 : decode cX10_label 1 = .ok (.getfield 23, 3) := by decide +kernel
theorem dX10_label_4 : decode cX10_label 4 = .ok (.getfield 65, 3) := by decide +kernel
theorem dX10_label_7 : decode cX10_label 7 = .ok (.astore_n 2, 1) := by decide +kernel
theorem dX10_label_8 : decode cX10_label 8 = .ok (.iload_n 1, 1) := by decide +kernel
theorem dX10_label_9 : decode cX10_label 9 = .ok (.ifCond .lt 11, 3) := by decide +kernel
theorem dX10_label_12 : decode cX10_label 12 = .ok (.iload_n 1, 1) := by decide +kernel
theorem dX10_label_13 : decode cX10_label 13 = .ok (.aload_n 2, 1) := by decide +kernel
theorem dX10_label_14 : decode cX10_label 14 = .ok (.getfield 77, 3) := by decide +kernel
theorem dX10_label_17 : decode cX10_label 17 = .ok (.if_icmp .lt 13, 3) := by decide +kernel
theorem dX10_label_20 : decode cX10_label 20 = .ok (.new 80, 3) := by decide +kernel
theorem dX10_label_23 : decode cX10_label 23 = .ok (.dup, 1) := by decide +kernel
theorem dX10_label_24 : decode cX10_label 24 = .ok (.ldc 93, 2) := by decide +kernel
theorem dX10_label_26 : decode cX10_label 26 = .ok (.invokespecial 84, 3) := by decide +kernel
theorem dX10_label_29 : decode cX10_label 29 = .ok (.athrow, 1) := by decide +kernel
theorem dX10_label_30 : decode cX10_label 30 = .ok (.aload_n 2, 1) := by decide +kernel
theorem dX10_label_31 : decode cX10_label 31 = .ok (.getfield 95, 3) := by decide +kernel
theorem dX10_label_34 : decode cX10_label 34 = .ok (.iload_n 1, 1) := by decide +kernel
theorem dX10_label_35 : decode cX10_label 35 = .ok (.iaload, 1) := by decide +kernel
theorem dX10_label_36 : decode cX10_label 36 = .ok (.ireturn, 1) := by decide +kernel
theorem dX10_load_0 : decode cX10_load 0 = .ok (.aload_n 0, 1) := by decide +kernel
theorem dX10_load_1 : decode cX10_load 1 = .ok (.getfield 23, 3) := by decide +kernel
theorem dX10_load_4 : decode cX10_load 4 = .ok (.getfield 98, 3) := by decide +kernel
theorem dX10_load_7 : decode cX10_load 7 = .ok (.ifCond .ne 5, 3) := by decide +kernel
theorem dX10_load_10 : decode cX10_load 10 = .ok (.iconst 0, 1) := by decide +kernel
theorem dX10_load_11 : decode cX10_load 11 = .ok (.ireturn, 1) := by decide +kernel
theorem dX10_load_12 : decode cX10_load 12 = .ok (.aload_n 0, 1) := by decide +kernel
theorem dX10_load_13 : decode cX10_load 13 = .ok (.getfield 30, 3) := by decide +kernel
theorem dX10_load_16 : decode cX10_load 16 = .ok (.aload_n 0, 1) := by decide +kernel
theorem dX10_load_17 : decode cX10_load 17 = .ok (.getfield 23, 3) := by decide +kernel
theorem dX10_load_20 : decode cX10_load 20 = .ok (.getfield 65, 3) := by decide +kernel
theorem dX10_load_23 : decode cX10_load 23 = .ok (.invokevirtual 102, 3) := by decide +kernel
theorem dX10_load_26 : decode cX10_load 26 = .ok (.iconst 1, 1) := by decide +kernel
theorem dX10_load_27 : decode cX10_load 27 = .ok (.ireturn, 1) := by decide +kernel
theorem dX10_key_0 : decode cX10_key 0 = .ok (.aload_n 0, 1) := by decide +kernel
theorem dX10_key_1 : decode cX10_key 1 = .ok (.getfield 30, 3) := by decide +kernel
theorem dX10_key_4 : decode cX10_key 4 = .ok (.iload_n 1, 1) := by decide +kernel
theorem dX10_key_5 : decode cX10_key 5 = .ok (.invokevirtual 106, 3) := by decide +kernel
theorem dX10_key_8 : decode cX10_key 8 = .ok (.ireturn, 1) := by decide +kernel
theorem dX10_run_0 : decode cX10_run 0 = .ok (.iload_n 1, 1) := by decide +kernel
theorem dX10_run_1 : decode cX10_run 1 = .ok (.ifCond .lt 10, 3) := by decide +kernel
theorem dX10_run_4 : decode cX10_run 4 = .ok (.iload_n 1, 1) := by decide +kernel
theorem dX10_run_5 : decode cX10_run 5 = .ok (.sipush 20000, 3) := by decide +kernel
theorem dX10_run_8 : decode cX10_run 8 = .ok (.if_icmp .le 13, 3) := by decide +kernel
theorem dX10_run_11 : decode cX10_run 11 = .ok (.new 109, 3) := by decide +kernel
theorem dX10_run_14 : decode cX10_run 14 = .ok (.dup, 1) := by decide +kernel
theorem dX10_run_15 : decode cX10_run 15 = .ok (.ldc 111, 2) := by decide +kernel
theorem dX10_run_17 : decode cX10_run 17 = .ok (.invokespecial 113, 3) := by decide +kernel
theorem dX10_run_20 : decode cX10_run 20 = .ok (.athrow, 1) := by decide +kernel
theorem dX10_run_21 : decode cX10_run 21 = .ok (.aload_n 0, 1) := by decide +kernel
theorem dX10_run_22 : decode cX10_run 22 = .ok (.getfield 30, 3) := by decide +kernel
theorem dX10_run_25 : decode cX10_run 25 = .ok (.iload_n 1, 1) := by decide +kernel
theorem dX10_run_26 : decode cX10_run 26 = .ok (.invokevirtual 114, 3) := by decide +kernel
theorem dX10_run_29 : decode cX10_run 29 = .ok (.ireturn, 1) := by decide +kernel
theorem dX10_state_0 : decode cX10_state 0 = .ok (.aload_n 0, 1) := by decide +kernel
theorem dX10_state_1 : decode cX10_state 1 = .ok (.getfield 30, 3) := by decide +kernel
theorem dX10_state_4 : decode cX10_state 4 = .ok (.getfield 118, 3) := by decide +kernel
theorem dX10_state_7 : decode cX10_state 7 = .ok (.ireturn, 1) := by decide +kernel
theorem dX10_register_0 : decode cX10_register 0 = .ok (.iload_n 1, 1) := by decide +kernel
theorem dX10_register_1 : decode cX10_register 1 = .ok (.ifCond .lt 9, 3) := by decide +kernel
theorem dX10_register_4 : decode cX10_register 4 = .ok (.iload_n 1, 1) := by decide +kernel
theorem dX10_register_5 : decode cX10_register 5 = .ok (.bipush 12, 2) := by decide +kernel
theorem dX10_register_7 : decode cX10_register 7 = .ok (.if_icmp .lt 13, 3) := by decide +kernel
theorem dX10_register_10 : decode cX10_register 10 = .ok (.new 80, 3) := by decide +kernel
theorem dX10_register_13 : decode cX10_register 13 = .ok (.dup, 1) := by decide +kernel
theorem dX10_register_14 : decode cX10_register 14 = .ok (.ldc 121, 2) := by decide +kernel
theorem dX10_register_16 : decode cX10_register 16 = .ok (.invokespecial 84, 3) := by decide +kernel
theorem dX10_register_19 : decode cX10_register 19 = .ok (.athrow, 1) := by decide +kernel
theorem dX10_register_20 : decode cX10_register 20 = .ok (.aload_n 0, 1) := by decide +kernel
theorem dX10_register_21 : decode cX10_register 21 = .ok (.getfield 30, 3) := by decide +kernel
theorem dX10_register_24 : decode cX10_register 24 = .ok (.getfield 123, 3) := by decide +kernel
theorem dX10_register_27 : decode cX10_register 27 = .ok (.iload_n 1, 1) := by decide +kernel
theorem dX10_register_28 : decode cX10_register 28 = .ok (.iaload, 1) := by decide +kernel
theorem dX10_register_29 : decode cX10_register 29 = .ok (.ireturn, 1) := by decide +kernel
theorem dX10_set_0 : decode cX10_set 0 = .ok (.iload_n 1, 1) := by decide +kernel
theorem dX10_set_1 : decode cX10_set 1 = .ok (.ifCond .lt 9, 3) := by decide +kernel
theorem dX10_set_4 : decode cX10_set 4 = .ok (.iload_n 1, 1) := by decide +kernel
theorem dX10_set_5 : decode cX10_set 5 = .ok (.bipush 12, 2) := by decide +kernel
theorem dX10_set_7 : decode cX10_set 7 = .ok (.if_icmp .lt 5, 3) := by decide +kernel
theorem dX10_set_10 : decode cX10_set 10 = .ok (.iconst 0, 1) := by decide +kernel
theorem dX10_set_11 : decode cX10_set 11 = .ok (.ireturn, 1) := by decide +kernel
theorem dX10_set_12 : decode cX10_set 12 = .ok (.aload_n 0, 1) := by decide +kernel
theorem dX10_set_13 : decode cX10_set 13 = .ok (.getfield 30, 3) := by decide +kernel
theorem dX10_set_16 : decode cX10_set 16 = .ok (.getfield 123, 3) := by decide +kernel
theorem dX10_set_19 : decode cX10_set 19 = .ok (.iload_n 1, 1) := by decide +kernel
theorem dX10_set_20 : decode cX10_set 20 = .ok (.iload_n 2, 1) := by decide +kernel
theorem dX10_set_21 : decode cX10_set 21 = .ok (.iload_n 1, 1) := by decide +kernel
theorem dX10_set_22 : decode cX10_set 22 = .ok (.bipush 9, 2) := by decide +kernel
theorem dX10_set_24 : decode cX10_set 24 = .ok (.if_icmp .ne 8, 3) := by decide +kernel
theorem dX10_set_27 : decode cX10_set 27 = .ok (.ldc 126, 2) := by decide +kernel
theorem dX10_set_29 : decode cX10_set 29 = .ok (.goto 5, 3) := by decide +kernel
theorem dX10_set_32 : decode cX10_set 32 = .ok (.ldc 127, 2) := by decide +kernel
theorem dX10_set_34 : decode cX10_set 34 = .ok (.iand, 1) := by decide +kernel
theorem dX10_set_35 : decode cX10_set 35 = .ok (.iastore, 1) := by decide +kernel
theorem dX10_set_36 : decode cX10_set 36 = .ok (.iconst 1, 1) := by decide +kernel
theorem dX10_set_37 : decode cX10_set 37 = .ok (.ireturn, 1) := by decide +kernel
theorem dX10_peek_0 : decode cX10_peek 0 = .ok (.aload_n 0, 1) := by decide +kernel
theorem dX10_peek_1 : decode cX10_peek 1 = .ok (.getfield 30, 3) := by decide +kernel
theorem dX10_peek_4 : decode cX10_peek 4 = .ok (.iload_n 1, 1) := by decide +kernel
theorem dX10_peek_5 : decode cX10_peek 5 = .ok (.ldc 127, 2) := by decide +kernel
theorem dX10_peek_7 : decode cX10_peek 7 = .ok (.iand, 1) := by decide +kernel
theorem dX10_peek_8 : decode cX10_peek 8 = .ok (.invokevirtual 128, 3) := by decide +kernel
theorem dX10_peek_11 : decode cX10_peek 11 = .ok (.ireturn, 1) := by decide +kernel
theorem dX10_poke_0 : decode cX10_poke 0 = .ok (.aload_n 0, 1) := by decide +kernel
theorem dX10_poke_1 : decode cX10_poke 1 = .ok (.getfield 30, 3) := by decide +kernel
theorem dX10_poke_4 : decode cX10_poke 4 = .ok (.getfield 131, 3) := by decide +kernel
theorem dX10_poke_7 : decode cX10_poke 7 = .ok (.iload_n 1, 1) := by decide +kernel
theorem dX10_poke_8 : decode cX10_poke 8 = .ok (.iload_n 2, 1) := by decide +kernel
theorem dX10_poke_9 : decode cX10_poke 9 = .ok (.invokevirtual 135, 3) := by decide +kernel
theorem dX10_poke_12 : decode cX10_poke 12 = .ok (.return_, 1) := by decide +kernel
theorem dX10_write_0 : decode cX10_write 0 = .ok (.aload_n 0, 1) := by decide +kernel
theorem dX10_write_1 : decode cX10_write 1 = .ok (.getfield 37, 3) := by decide +kernel
theorem dX10_write_4 : decode cX10_write 4 = .ok (.aload_n 0, 1) := by decide +kernel
theorem dX10_write_5 : decode cX10_write 5 = .ok (.getfield 30, 3) := by decide +kernel
theorem dX10_write_8 : decode cX10_write 8 = .ok (.iload_n 1, 1) := by decide +kernel
theorem dX10_write_9 : decode cX10_write 9 = .ok (.ldc 127, 2) := by decide +kernel
theorem dX10_write_11 : decode cX10_write 11 = .ok (.iand, 1) := by decide +kernel
theorem dX10_write_12 : decode cX10_write 12 = .ok (.invokevirtual 128, 3) := by decide +kernel
theorem dX10_write_15 : decode cX10_write 15 = .ok (.invokevirtual 141, 3) := by decide +kernel
theorem dX10_write_18 : decode cX10_write 18 = .ok (.aload_n 0, 1) := by decide +kernel
theorem dX10_write_19 : decode cX10_write 19 = .ok (.getfield 37, 3) := by decide +kernel
theorem dX10_write_22 : decode cX10_write 22 = .ok (.getfield 144, 3) := by decide +kernel
theorem dX10_write_25 : decode cX10_write 25 = .ok (.getfield 48, 3) := by decide +kernel
theorem dX10_write_28 : decode cX10_write 28 = .ok (.ireturn, 1) := by decide +kernel
theorem dX10_written_0 : decode cX10_written 0 = .ok (.aload_n 0, 1) := by decide +kernel
theorem dX10_written_1 : decode cX10_written 1 = .ok (.getfield 37, 3) := by decide +kernel
theorem dX10_written_4 : decode cX10_written 4 = .ok (.getfield 144, 3) := by decide +kernel
theorem dX10_written_7 : decode cX10_written 7 = .ok (.iload_n 1, 1) := by decide +kernel
theorem dX10_written_8 : decode cX10_written 8 = .ok (.invokevirtual 147, 3) := by decide +kernel
theorem dX10_written_11 : decode cX10_written 11 = .ok (.ireturn, 1) := by decide +kernel
theorem dX10_again_0 : decode cX10_again 0 = .ok (.aload_n 0, 1) := by decide +kernel
theorem dX10_again_1 : decode cX10_again 1 = .ok (.getfield 37, 3) := by decide +kernel
theorem dX10_again_4 : decode cX10_again 4 = .ok (.getfield 144, 3) := by decide +kernel
theorem dX10_again_7 : decode cX10_again 7 = .ok (.astore_n 1, 1) := by decide +kernel
theorem dX10_again_8 : decode cX10_again 8 = .ok (.aload_n 0, 1) := by decide +kernel
theorem dX10_again_9 : decode cX10_again 9 = .ok (.getfield 14, 3) := by decide +kernel
theorem dX10_again_12 : decode cX10_again 12 = .ok (.aload_n 1, 1) := by decide +kernel
theorem dX10_again_13 : decode cX10_again 13 = .ok (.getfield 48, 3) := by decide +kernel
theorem dX10_again_16 : decode cX10_again 16 = .ok (.iconst 1, 1) := by decide +kernel
theorem dX10_again_17 : decode cX10_again 17 = .ok (.iadd, 1) := by decide +kernel
theorem dX10_again_18 : decode cX10_again 18 = .ok (.invokevirtual 41, 3) := by decide +kernel
theorem dX10_again_21 : decode cX10_again 21 = .ok (.ifCond .ne 5, 3) := by decide +kernel
theorem dX10_again_24 : decode cX10_again 24 = .ok (.iconst (-1), 1) := by decide +kernel
theorem dX10_again_25 : decode cX10_again 25 = .ok (.ireturn, 1) := by decide +kernel
theorem dX10_again_26 : decode cX10_again 26 = .ok (.iconst 0, 1) := by decide +kernel
theorem dX10_again_27 : decode cX10_again 27 = .ok (.istore_n 2, 1) := by decide +kernel
theorem dX10_again_28 : decode cX10_again 28 = .ok (.iload_n 2, 1) := by decide +kernel
theorem dX10_again_29 : decode cX10_again 29 = .ok (.aload_n 1, 1) := by decide +kernel
theorem dX10_again_30 : decode cX10_again 30 = .ok (.getfield 48, 3) := by decide +kernel
theorem dX10_again_33 : decode cX10_again 33 = .ok (.if_icmp .ge 21, 3) := by decide +kernel
theorem dX10_again_36 : decode cX10_again 36 = .ok (.aload_n 0, 1) := by decide +kernel
theorem dX10_again_37 : decode cX10_again 37 = .ok (.getfield 14, 3) := by decide +kernel
theorem dX10_again_40 : decode cX10_again 40 = .ok (.aload_n 1, 1) := by decide +kernel
theorem dX10_again_41 : decode cX10_again 41 = .ok (.iload_n 2, 1) := by decide +kernel
theorem dX10_again_42 : decode cX10_again 42 = .ok (.invokevirtual 147, 3) := by decide +kernel
theorem dX10_again_45 : decode cX10_again 45 = .ok (.invokevirtual 150, 3) := by decide +kernel
theorem dX10_again_48 : decode cX10_again 48 = .ok (.iinc 2 1, 3) := by decide +kernel
theorem dX10_again_51 : decode cX10_again 51 = .ok (.goto (-23), 3) := by decide +kernel
theorem dX10_again_54 : decode cX10_again 54 = .ok (.aload_n 0, 1) := by decide +kernel
theorem dX10_again_55 : decode cX10_again 55 = .ok (.getfield 14, 3) := by decide +kernel
theorem dX10_again_58 : decode cX10_again 58 = .ok (.bipush 10, 2) := by decide +kernel
theorem dX10_again_60 : decode cX10_again 60 = .ok (.invokevirtual 150, 3) := by decide +kernel
theorem dX10_again_63 : decode cX10_again 63 = .ok (.aload_n 0, 1) := by decide +kernel
theorem dX10_again_64 : decode cX10_again 64 = .ok (.getfield 14, 3) := by decide +kernel
theorem dX10_again_67 : decode cX10_again 67 = .ok (.getfield 48, 3) := by decide +kernel
theorem dX10_again_70 : decode cX10_again 70 = .ok (.ireturn, 1) := by decide +kernel
theorem dX10_printed_0 : decode cX10_printed 0 = .ok (.aload_n 0, 1) := by decide +kernel
theorem dX10_printed_1 : decode cX10_printed 1 = .ok (.getfield 30, 3) := by decide +kernel
theorem dX10_printed_4 : decode cX10_printed 4 = .ok (.getfield 153, 3) := by decide +kernel
theorem dX10_printed_7 : decode cX10_printed 7 = .ok (.getfield 157, 3) := by decide +kernel
theorem dX10_printed_10 : decode cX10_printed 10 = .ok (.ireturn, 1) := by decide +kernel
theorem dX10_print_0 : decode cX10_print 0 = .ok (.aload_n 0, 1) := by decide +kernel
theorem dX10_print_1 : decode cX10_print 1 = .ok (.getfield 30, 3) := by decide +kernel
theorem dX10_print_4 : decode cX10_print 4 = .ok (.getfield 153, 3) := by decide +kernel
theorem dX10_print_7 : decode cX10_print 7 = .ok (.iload_n 1, 1) := by decide +kernel
theorem dX10_print_8 : decode cX10_print 8 = .ok (.invokevirtual 162, 3) := by decide +kernel
theorem dX10_print_11 : decode cX10_print 11 = .ok (.ireturn, 1) := by decide +kernel
theorem dX10_count_0 : decode cX10_count 0 = .ok (.iload_n 1, 1) := by decide +kernel
theorem dX10_count_1 : decode cX10_count 1 = .ok (.iconst 4, 1) := by decide +kernel
theorem dX10_count_2 : decode cX10_count 2 = .ok (.if_icmp .ne 14, 3) := by decide +kernel
theorem dX10_count_5 : decode cX10_count 5 = .ok (.aload_n 0, 1) := by decide +kernel
theorem dX10_count_6 : decode cX10_count 6 = .ok (.getfield 30, 3) := by decide +kernel
theorem dX10_count_9 : decode cX10_count 9 = .ok (.getfield 163, 3) := by decide +kernel
theorem dX10_count_12 : decode cX10_count 12 = .ok (.getfield 167, 3) := by decide +kernel
theorem dX10_count_15 : decode cX10_count 15 = .ok (.ireturn, 1) := by decide +kernel
theorem dX10_count_16 : decode cX10_count 16 = .ok (.iload_n 1, 1) := by decide +kernel
theorem dX10_count_17 : decode cX10_count 17 = .ok (.ifCond .lt 8, 3) := by decide +kernel
theorem dX10_count_20 : decode cX10_count 20 = .ok (.iload_n 1, 1) := by decide +kernel
theorem dX10_count_21 : decode cX10_count 21 = .ok (.iconst 4, 1) := by decide +kernel
theorem dX10_count_22 : decode cX10_count 22 = .ok (.if_icmp .le 13, 3) := by decide +kernel
theorem dX10_count_25 : decode cX10_count 25 = .ok (.new 80, 3) := by decide +kernel
theorem dX10_count_28 : decode cX10_count 28 = .ok (.dup, 1) := by decide +kernel
theorem dX10_count_29 : decode cX10_count 29 = .ok (.ldc 172, 2) := by decide +kernel
theorem dX10_count_31 : decode cX10_count 31 = .ok (.invokespecial 84, 3) := by decide +kernel
theorem dX10_count_34 : decode cX10_count 34 = .ok (.athrow, 1) := by decide +kernel
theorem dX10_count_35 : decode cX10_count 35 = .ok (.aload_n 0, 1) := by decide +kernel
theorem dX10_count_36 : decode cX10_count 36 = .ok (.getfield 30, 3) := by decide +kernel
theorem dX10_count_39 : decode cX10_count 39 = .ok (.getfield 174, 3) := by decide +kernel
theorem dX10_count_42 : decode cX10_count 42 = .ok (.iload_n 1, 1) := by decide +kernel
theorem dX10_count_43 : decode cX10_count 43 = .ok (.iaload, 1) := by decide +kernel
theorem dX10_count_44 : decode cX10_count 44 = .ok (.ireturn, 1) := by decide +kernel
theorem dX10_signOf_0 : decode cX10_signOf 0 = .ok (.iload_n 0, 1) := by decide +kernel
theorem dX10_signOf_1 : decode cX10_signOf 1 = .ok (.bipush 65, 2) := by decide +kernel
theorem dX10_signOf_3 : decode cX10_signOf 3 = .ok (.if_icmp .lt 16, 3) := by decide +kernel
theorem dX10_signOf_6 : decode cX10_signOf 6 = .ok (.iload_n 0, 1) := by decide +kernel
theorem dX10_signOf_7 : decode cX10_signOf 7 = .ok (.bipush 90, 2) := by decide +kernel
theorem dX10_signOf_9 : decode cX10_signOf 9 = .ok (.if_icmp .gt 10, 3) := by decide +kernel
theorem dX10_signOf_12 : decode cX10_signOf 12 = .ok (.iload_n 0, 1) := by decide +kernel
theorem dX10_signOf_13 : decode cX10_signOf 13 = .ok (.bipush 65, 2) := by decide +kernel
theorem dX10_signOf_15 : decode cX10_signOf 15 = .ok (.isub, 1) := by decide +kernel
theorem dX10_signOf_16 : decode cX10_signOf 16 = .ok (.iconst 1, 1) := by decide +kernel
theorem dX10_signOf_17 : decode cX10_signOf 17 = .ok (.iadd, 1) := by decide +kernel
theorem dX10_signOf_18 : decode cX10_signOf 18 = .ok (.ireturn, 1) := by decide +kernel
theorem dX10_signOf_19 : decode cX10_signOf 19 = .ok (.iload_n 0, 1) := by decide +kernel
theorem dX10_signOf_20 : decode cX10_signOf 20 = .ok (.bipush 97, 2) := by decide +kernel
theorem dX10_signOf_22 : decode cX10_signOf 22 = .ok (.if_icmp .lt 16, 3) := by decide +kernel
theorem dX10_signOf_25 : decode cX10_signOf 25 = .ok (.iload_n 0, 1) := by decide +kernel
theorem dX10_signOf_26 : decode cX10_signOf 26 = .ok (.bipush 122, 2) := by decide +kernel
theorem dX10_signOf_28 : decode cX10_signOf 28 = .ok (.if_icmp .gt 10, 3) := by decide +kernel
theorem dX10_signOf_31 : decode cX10_signOf 31 = .ok (.iload_n 0, 1) := by decide +kernel
theorem dX10_signOf_32 : decode cX10_signOf 32 = .ok (.bipush 97, 2) := by decide +kernel
theorem dX10_signOf_34 : decode cX10_signOf 34 = .ok (.isub, 1) := by decide +kernel
theorem dX10_signOf_35 : decode cX10_signOf 35 = .ok (.iconst 1, 1) := by decide +kernel
theorem dX10_signOf_36 : decode cX10_signOf 36 = .ok (.iadd, 1) := by decide +kernel
theorem dX10_signOf_37 : decode cX10_signOf 37 = .ok (.ireturn, 1) := by decide +kernel
theorem dX10_signOf_38 : decode cX10_signOf 38 = .ok (.iload_n 0, 1) := by decide +kernel
theorem dX10_signOf_39 : decode cX10_signOf 39 = .ok (.bipush 48, 2) := by decide +kernel
theorem dX10_signOf_41 : decode cX10_signOf 41 = .ok (.if_icmp .lt 17, 3) := by decide +kernel
theorem dX10_signOf_44 : decode cX10_signOf 44 = .ok (.iload_n 0, 1) := by decide +kernel
theorem dX10_signOf_45 : decode cX10_signOf 45 = .ok (.bipush 57, 2) := by decide +kernel
theorem dX10_signOf_47 : decode cX10_signOf 47 = .ok (.if_icmp .gt 11, 3) := by decide +kernel
theorem dX10_signOf_50 : decode cX10_signOf 50 = .ok (.iload_n 0, 1) := by decide +kernel
theorem dX10_signOf_51 : decode cX10_signOf 51 = .ok (.bipush 48, 2) := by decide +kernel
theorem dX10_signOf_53 : decode cX10_signOf 53 = .ok (.isub, 1) := by decide +kernel
theorem dX10_signOf_54 : decode cX10_signOf 54 = .ok (.bipush 27, 2) := by decide +kernel
theorem dX10_signOf_56 : decode cX10_signOf 56 = .ok (.iadd, 1) := by decide +kernel
theorem dX10_signOf_57 : decode cX10_signOf 57 = .ok (.ireturn, 1) := by decide +kernel
theorem dX10_signOf_58 : decode cX10_signOf 58 = .ok (.iload_n 0, 1) := by decide +kernel
theorem dX10_signOf_59 : decode cX10_signOf 59 = .ok (.lookupswitch 53 #[(35, 47), (45, 50), (46, 44), (95, 41)], 41) := by decide +kernel
theorem dX10_signOf_100 : decode cX10_signOf 100 = .ok (.bipush 37, 2) := by decide +kernel
theorem dX10_signOf_102 : decode cX10_signOf 102 = .ok (.ireturn, 1) := by decide +kernel
theorem dX10_signOf_103 : decode cX10_signOf 103 = .ok (.bipush 38, 2) := by decide +kernel
theorem dX10_signOf_105 : decode cX10_signOf 105 = .ok (.ireturn, 1) := by decide +kernel
theorem dX10_signOf_106 : decode cX10_signOf 106 = .ok (.bipush 39, 2) := by decide +kernel
theorem dX10_signOf_108 : decode cX10_signOf 108 = .ok (.ireturn, 1) := by decide +kernel
theorem dX10_signOf_109 : decode cX10_signOf 109 = .ok (.bipush 40, 2) := by decide +kernel
theorem dX10_signOf_111 : decode cX10_signOf 111 = .ok (.ireturn, 1) := by decide +kernel
theorem dX10_signOf_112 : decode cX10_signOf 112 = .ok (.iconst 0, 1) := by decide +kernel
theorem dX10_signOf_113 : decode cX10_signOf 113 = .ok (.ireturn, 1) := by decide +kernel
theorem dX10_digitOf_0 : decode cX10_digitOf 0 = .ok (.iload_n 0, 1) := by decide +kernel
theorem dX10_digitOf_1 : decode cX10_digitOf 1 = .ok (.bipush 48, 2) := by decide +kernel
theorem dX10_digitOf_3 : decode cX10_digitOf 3 = .ok (.if_icmp .lt 14, 3) := by decide +kernel
theorem dX10_digitOf_6 : decode cX10_digitOf 6 = .ok (.iload_n 0, 1) := by decide +kernel
theorem dX10_digitOf_7 : decode cX10_digitOf 7 = .ok (.bipush 57, 2) := by decide +kernel
theorem dX10_digitOf_9 : decode cX10_digitOf 9 = .ok (.if_icmp .gt 8, 3) := by decide +kernel
theorem dX10_digitOf_12 : decode cX10_digitOf 12 = .ok (.iload_n 0, 1) := by decide +kernel
theorem dX10_digitOf_13 : decode cX10_digitOf 13 = .ok (.bipush 48, 2) := by decide +kernel
theorem dX10_digitOf_15 : decode cX10_digitOf 15 = .ok (.isub, 1) := by decide +kernel
theorem dX10_digitOf_16 : decode cX10_digitOf 16 = .ok (.ireturn, 1) := by decide +kernel
theorem dX10_digitOf_17 : decode cX10_digitOf 17 = .ok (.iload_n 0, 1) := by decide +kernel
theorem dX10_digitOf_18 : decode cX10_digitOf 18 = .ok (.bipush 65, 2) := by decide +kernel
theorem dX10_digitOf_20 : decode cX10_digitOf 20 = .ok (.if_icmp .lt 17, 3) := by decide +kernel
theorem dX10_digitOf_23 : decode cX10_digitOf 23 = .ok (.iload_n 0, 1) := by decide +kernel
theorem dX10_digitOf_24 : decode cX10_digitOf 24 = .ok (.bipush 70, 2) := by decide +kernel
theorem dX10_digitOf_26 : decode cX10_digitOf 26 = .ok (.if_icmp .gt 11, 3) := by decide +kernel
theorem dX10_digitOf_29 : decode cX10_digitOf 29 = .ok (.iload_n 0, 1) := by decide +kernel
theorem dX10_digitOf_30 : decode cX10_digitOf 30 = .ok (.bipush 65, 2) := by decide +kernel
theorem dX10_digitOf_32 : decode cX10_digitOf 32 = .ok (.isub, 1) := by decide +kernel
theorem dX10_digitOf_33 : decode cX10_digitOf 33 = .ok (.bipush 10, 2) := by decide +kernel
theorem dX10_digitOf_35 : decode cX10_digitOf 35 = .ok (.iadd, 1) := by decide +kernel
theorem dX10_digitOf_36 : decode cX10_digitOf 36 = .ok (.ireturn, 1) := by decide +kernel
theorem dX10_digitOf_37 : decode cX10_digitOf 37 = .ok (.iload_n 0, 1) := by decide +kernel
theorem dX10_digitOf_38 : decode cX10_digitOf 38 = .ok (.bipush 97, 2) := by decide +kernel
theorem dX10_digitOf_40 : decode cX10_digitOf 40 = .ok (.if_icmp .lt 17, 3) := by decide +kernel
theorem dX10_digitOf_43 : decode cX10_digitOf 43 = .ok (.iload_n 0, 1) := by decide +kernel
theorem dX10_digitOf_44 : decode cX10_digitOf 44 = .ok (.bipush 102, 2) := by decide +kernel
theorem dX10_digitOf_46 : decode cX10_digitOf 46 = .ok (.if_icmp .gt 11, 3) := by decide +kernel
theorem dX10_digitOf_49 : decode cX10_digitOf 49 = .ok (.iload_n 0, 1) := by decide +kernel
theorem dX10_digitOf_50 : decode cX10_digitOf 50 = .ok (.bipush 97, 2) := by decide +kernel
theorem dX10_digitOf_52 : decode cX10_digitOf 52 = .ok (.isub, 1) := by decide +kernel
theorem dX10_digitOf_53 : decode cX10_digitOf 53 = .ok (.bipush 10, 2) := by decide +kernel
theorem dX10_digitOf_55 : decode cX10_digitOf 55 = .ok (.iadd, 1) := by decide +kernel
theorem dX10_digitOf_56 : decode cX10_digitOf 56 = .ok (.ireturn, 1) := by decide +kernel
theorem dX10_digitOf_57 : decode cX10_digitOf 57 = .ok (.bipush 16, 2) := by decide +kernel
theorem dX10_digitOf_59 : decode cX10_digitOf 59 = .ok (.ireturn, 1) := by decide +kernel
theorem dX10_meaning_0 : decode cX10_meaning 0 = .ok (.iload_n 0, 1) := by decide +kernel
theorem dX10_meaning_1 : decode cX10_meaning 1 = .ok (.lookupswitch 61 #[(34, 59), (48, 57), (92, 59), (110, 51), (116, 54)], 51) := by decide +kernel
theorem dX10_meaning_52 : decode cX10_meaning 52 = .ok (.bipush 10, 2) := by decide +kernel
theorem dX10_meaning_54 : decode cX10_meaning 54 = .ok (.ireturn, 1) := by decide +kernel
theorem dX10_meaning_55 : decode cX10_meaning 55 = .ok (.bipush 9, 2) := by decide +kernel
theorem dX10_meaning_57 : decode cX10_meaning 57 = .ok (.ireturn, 1) := by decide +kernel
theorem dX10_meaning_58 : decode cX10_meaning 58 = .ok (.iconst 0, 1) := by decide +kernel
theorem dX10_meaning_59 : decode cX10_meaning 59 = .ok (.ireturn, 1) := by decide +kernel
theorem dX10_meaning_60 : decode cX10_meaning 60 = .ok (.iload_n 0, 1) := by decide +kernel
theorem dX10_meaning_61 : decode cX10_meaning 61 = .ok (.ireturn, 1) := by decide +kernel
theorem dX10_meaning_62 : decode cX10_meaning 62 = .ok (.iconst (-1), 1) := by decide +kernel
theorem dX10_meaning_63 : decode cX10_meaning 63 = .ok (.ireturn, 1) := by decide +kernel
theorem dX10_signed_0 : decode cX10_signed 0 = .ok (.iconst 1, 1) := by decide +kernel
theorem dX10_signed_1 : decode cX10_signed 1 = .ok (.iload_n 1, 1) := by decide +kernel
theorem dX10_signed_2 : decode cX10_signed 2 = .ok (.iconst 1, 1) := by decide +kernel
theorem dX10_signed_3 : decode cX10_signed 3 = .ok (.isub, 1) := by decide +kernel
theorem dX10_signed_4 : decode cX10_signed 4 = .ok (.ishl, 1) := by decide +kernel
theorem dX10_signed_5 : decode cX10_signed 5 = .ok (.istore_n 2, 1) := by decide +kernel
theorem dX10_signed_6 : decode cX10_signed 6 = .ok (.iload_n 0, 1) := by decide +kernel
theorem dX10_signed_7 : decode cX10_signed 7 = .ok (.iconst 2, 1) := by decide +kernel
theorem dX10_signed_8 : decode cX10_signed 8 = .ok (.iload_n 2, 1) := by decide +kernel
theorem dX10_signed_9 : decode cX10_signed 9 = .ok (.imul, 1) := by decide +kernel
theorem dX10_signed_10 : decode cX10_signed 10 = .ok (.iconst 1, 1) := by decide +kernel
theorem dX10_signed_11 : decode cX10_signed 11 = .ok (.isub, 1) := by decide +kernel
theorem dX10_signed_12 : decode cX10_signed 12 = .ok (.iand, 1) := by decide +kernel
theorem dX10_signed_13 : decode cX10_signed 13 = .ok (.iload_n 2, 1) := by decide +kernel
theorem dX10_signed_14 : decode cX10_signed 14 = .ok (.ixor, 1) := by decide +kernel
theorem dX10_signed_15 : decode cX10_signed 15 = .ok (.iload_n 2, 1) := by decide +kernel
theorem dX10_signed_16 : decode cX10_signed 16 = .ok (.isub, 1) := by decide +kernel
theorem dX10_signed_17 : decode cX10_signed 17 = .ok (.ireturn, 1) := by decide +kernel
theorem dJ0_length_8abf5_0 : decode cJ0_length_8abf5 0 = .ok (.aload_n 0, 1) := by decide +kernel
theorem dJ0_length_8abf5_1 : decode cJ0_length_8abf5 1 = .ok (.getfield 9, 3) := by decide +kernel
theorem dJ0_length_8abf5_4 : decode cJ0_length_8abf5 4 = .ok (.arraylength, 1) := by decide +kernel
theorem dJ0_length_8abf5_5 : decode cJ0_length_8abf5 5 = .ok (.aload_n 0, 1) := by decide +kernel
theorem dJ0_length_8abf5_6 : decode cJ0_length_8abf5 6 = .ok (.invokevirtual 335, 3) := by decide +kernel
theorem dJ0_length_8abf5_9 : decode cJ0_length_8abf5 9 = .ok (.ishr, 1) := by decide +kernel
theorem dJ0_length_8abf5_10 : decode cJ0_length_8abf5 10 = .ok (.ireturn, 1) := by decide +kernel
theorem dJ0_charAt_5068e_0 : decode cJ0_charAt_5068e 0 = .ok (.aload_n 0, 1) := by decide +kernel
theorem dJ0_charAt_5068e_1 : decode cJ0_charAt_5068e 1 = .ok (.invokevirtual 492, 3) := by decide +kernel
theorem dJ0_charAt_5068e_4 : decode cJ0_charAt_5068e 4 = .ok (.ifCond .eq 12, 3) := by decide +kernel
theorem dJ0_charAt_5068e_7 : decode cJ0_charAt_5068e 7 = .ok (.aload_n 0, 1) := by decide +kernel
theorem dJ0_charAt_5068e_8 : decode cJ0_charAt_5068e 8 = .ok (.getfield 9, 3) := by decide +kernel
theorem dJ0_charAt_5068e_11 : decode cJ0_charAt_5068e 11 = .ok (.iload_n 1, 1) := by decide +kernel
theorem dJ0_charAt_5068e_12 : decode cJ0_charAt_5068e 12 = .ok (.invokestatic 495, 3) := by decide +kernel
theorem dJ0_charAt_5068e_15 : decode cJ0_charAt_5068e 15 = .ok (.ireturn, 1) := by decide +kernel
theorem dJ0_charAt_5068e_16 : decode cJ0_charAt_5068e 16 = .ok (.aload_n 0, 1) := by decide +kernel
theorem dJ0_charAt_5068e_17 : decode cJ0_charAt_5068e 17 = .ok (.getfield 9, 3) := by decide +kernel
theorem dJ0_charAt_5068e_20 : decode cJ0_charAt_5068e 20 = .ok (.iload_n 1, 1) := by decide +kernel
theorem dJ0_charAt_5068e_21 : decode cJ0_charAt_5068e 21 = .ok (.invokestatic 498, 3) := by decide +kernel
theorem dJ0_charAt_5068e_24 : decode cJ0_charAt_5068e 24 = .ok (.ireturn, 1) := by decide +kernel
theorem dJ0_coder_7d493_0 : decode cJ0_coder_7d493 0 = .ok (.getstatic 38, 3) := by decide +kernel
theorem dJ0_coder_7d493_3 : decode cJ0_coder_7d493 3 = .ok (.ifCond .eq 10, 3) := by decide +kernel
theorem dJ0_coder_7d493_6 : decode cJ0_coder_7d493 6 = .ok (.aload_n 0, 1) := by decide +kernel
theorem dJ0_coder_7d493_7 : decode cJ0_coder_7d493 7 = .ok (.getfield 15, 3) := by decide +kernel
theorem dJ0_coder_7d493_10 : decode cJ0_coder_7d493 10 = .ok (.goto 4, 3) := by decide +kernel
theorem dJ0_coder_7d493_13 : decode cJ0_coder_7d493 13 = .ok (.iconst 1, 1) := by decide +kernel
theorem dJ0_coder_7d493_14 : decode cJ0_coder_7d493 14 = .ok (.ireturn, 1) := by decide +kernel
theorem dJ0_isLatin1_aae02_0 : decode cJ0_isLatin1_aae02 0 = .ok (.getstatic 38, 3) := by decide +kernel
theorem dJ0_isLatin1_aae02_3 : decode cJ0_isLatin1_aae02 3 = .ok (.ifCond .eq 14, 3) := by decide +kernel
theorem dJ0_isLatin1_aae02_6 : decode cJ0_isLatin1_aae02 6 = .ok (.aload_n 0, 1) := by decide +kernel
theorem dJ0_isLatin1_aae02_7 : decode cJ0_isLatin1_aae02 7 = .ok (.getfield 15, 3) := by decide +kernel
theorem dJ0_isLatin1_aae02_10 : decode cJ0_isLatin1_aae02 10 = .ok (.ifCond .ne 7, 3) := by decide +kernel
theorem dJ0_isLatin1_aae02_13 : decode cJ0_isLatin1_aae02 13 = .ok (.iconst 1, 1) := by decide +kernel
theorem dJ0_isLatin1_aae02_14 : decode cJ0_isLatin1_aae02 14 = .ok (.goto 4, 3) := by decide +kernel
theorem dJ0_isLatin1_aae02_17 : decode cJ0_isLatin1_aae02 17 = .ok (.iconst 0, 1) := by decide +kernel
theorem dJ0_isLatin1_aae02_18 : decode cJ0_isLatin1_aae02 18 = .ok (.ireturn, 1) := by decide +kernel
theorem dJ0_checkIndex_df160_0 : decode cJ0_checkIndex_df160 0 = .ok (.iload_n 0, 1) := by decide +kernel
theorem dJ0_checkIndex_df160_1 : decode cJ0_checkIndex_df160 1 = .ok (.iload_n 1, 1) := by decide +kernel
theorem dJ0_checkIndex_df160_2 : decode cJ0_checkIndex_df160 2 = .ok (.getstatic 1053, 3) := by decide +kernel
theorem dJ0_checkIndex_df160_5 : decode cJ0_checkIndex_df160 5 = .ok (.invokestatic 1059, 3) := by decide +kernel
theorem dJ0_checkIndex_df160_8 : decode cJ0_checkIndex_df160 8 = .ok (.pop, 1) := by decide +kernel
theorem dJ0_checkIndex_df160_9 : decode cJ0_checkIndex_df160 9 = .ok (.return_, 1) := by decide +kernel
theorem dJ1_charAt_3b067_0 : decode cJ1_charAt_3b067 0 = .ok (.iload_n 1, 1) := by decide +kernel
theorem dJ1_charAt_3b067_1 : decode cJ1_charAt_3b067 1 = .ok (.aload_n 0, 1) := by decide +kernel
theorem dJ1_charAt_3b067_2 : decode cJ1_charAt_3b067 2 = .ok (.arraylength, 1) := by decide +kernel
theorem dJ1_charAt_3b067_3 : decode cJ1_charAt_3b067 3 = .ok (.invokestatic 9, 3) := by decide +kernel
theorem dJ1_charAt_3b067_6 : decode cJ1_charAt_3b067 6 = .ok (.aload_n 0, 1) := by decide +kernel
theorem dJ1_charAt_3b067_7 : decode cJ1_charAt_3b067 7 = .ok (.iload_n 1, 1) := by decide +kernel
theorem dJ1_charAt_3b067_8 : decode cJ1_charAt_3b067 8 = .ok (.baload, 1) := by decide +kernel
theorem dJ1_charAt_3b067_9 : decode cJ1_charAt_3b067 9 = .ok (.sipush 255, 3) := by decide +kernel
theorem dJ1_charAt_3b067_12 : decode cJ1_charAt_3b067 12 = .ok (.iand, 1) := by decide +kernel
theorem dJ1_charAt_3b067_13 : decode cJ1_charAt_3b067 13 = .ok (.i2c, 1) := by decide +kernel
theorem dJ1_charAt_3b067_14 : decode cJ1_charAt_3b067 14 = .ok (.ireturn, 1) := by decide +kernel
theorem dJ2_getChar_3b067_0 : decode cJ2_getChar_3b067 0 = .ok (.getstatic 44, 3) := by decide +kernel
theorem dJ2_getChar_3b067_3 : decode cJ2_getChar_3b067 3 = .ok (.ifCond .ne 25, 3) := by decide +kernel
theorem dJ2_getChar_3b067_6 : decode cJ2_getChar_3b067 6 = .ok (.iload_n 1, 1) := by decide +kernel
theorem dJ2_getChar_3b067_7 : decode cJ2_getChar_3b067 7 = .ok (.ifCond .lt 11, 3) := by decide +kernel
theorem dJ2_getChar_3b067_10 : decode cJ2_getChar_3b067 10 = .ok (.iload_n 1, 1) := by decide +kernel
theorem dJ2_getChar_3b067_11 : decode cJ2_getChar_3b067 11 = .ok (.aload_n 0, 1) := by decide +kernel
theorem dJ2_getChar_3b067_12 : decode cJ2_getChar_3b067 12 = .ok (.invokestatic 48, 3) := by decide +kernel
theorem dJ2_getChar_3b067_15 : decode cJ2_getChar_3b067 15 = .ok (.if_icmp .lt 13, 3) := by decide +kernel
theorem dJ2_getChar_3b067_18 : decode cJ2_getChar_3b067 18 = .ok (.new 52, 3) := by decide +kernel
theorem dJ2_getChar_3b067_21 : decode cJ2_getChar_3b067 21 = .ok (.dup, 1) := by decide +kernel
theorem dJ2_getChar_3b067_22 : decode cJ2_getChar_3b067 22 = .ok (.ldc 54, 2) := by decide +kernel
theorem dJ2_getChar_3b067_24 : decode cJ2_getChar_3b067 24 = .ok (.invokespecial 56, 3) := by decide +kernel
theorem dJ2_getChar_3b067_27 : decode cJ2_getChar_3b067 27 = .ok (.athrow, 1) := by decide +kernel
theorem dJ2_getChar_3b067_28 : decode cJ2_getChar_3b067 28 = .ok (.iload_n 1, 1) := by decide +kernel
theorem dJ2_getChar_3b067_29 : decode cJ2_getChar_3b067 29 = .ok (.iconst 1, 1) := by decide +kernel
theorem dJ2_getChar_3b067_30 : decode cJ2_getChar_3b067 30 = .ok (.ishl, 1) := by decide +kernel
theorem dJ2_getChar_3b067_31 : decode cJ2_getChar_3b067 31 = .ok (.istore_n 1, 1) := by decide +kernel
theorem dJ2_getChar_3b067_32 : decode cJ2_getChar_3b067 32 = .ok (.aload_n 0, 1) := by decide +kernel
theorem dJ2_getChar_3b067_33 : decode cJ2_getChar_3b067 33 = .ok (.iload_n 1, 1) := by decide +kernel
theorem dJ2_getChar_3b067_34 : decode cJ2_getChar_3b067 34 = .ok (.iinc 1 1, 3) := by decide +kernel
theorem dJ2_getChar_3b067_37 : decode cJ2_getChar_3b067 37 = .ok (.baload, 1) := by decide +kernel
theorem dJ2_getChar_3b067_38 : decode cJ2_getChar_3b067 38 = .ok (.sipush 255, 3) := by decide +kernel
theorem dJ2_getChar_3b067_41 : decode cJ2_getChar_3b067 41 = .ok (.iand, 1) := by decide +kernel
theorem dJ2_getChar_3b067_42 : decode cJ2_getChar_3b067 42 = .ok (.getstatic 59, 3) := by decide +kernel
theorem dJ2_getChar_3b067_45 : decode cJ2_getChar_3b067 45 = .ok (.ishl, 1) := by decide +kernel
theorem dJ2_getChar_3b067_46 : decode cJ2_getChar_3b067 46 = .ok (.aload_n 0, 1) := by decide +kernel
theorem dJ2_getChar_3b067_47 : decode cJ2_getChar_3b067 47 = .ok (.iload_n 1, 1) := by decide +kernel
theorem dJ2_getChar_3b067_48 : decode cJ2_getChar_3b067 48 = .ok (.baload, 1) := by decide +kernel
theorem dJ2_getChar_3b067_49 : decode cJ2_getChar_3b067 49 = .ok (.sipush 255, 3) := by decide +kernel
theorem dJ2_getChar_3b067_52 : decode cJ2_getChar_3b067 52 = .ok (.iand, 1) := by decide +kernel
theorem dJ2_getChar_3b067_53 : decode cJ2_getChar_3b067 53 = .ok (.getstatic 63, 3) := by decide +kernel
theorem dJ2_getChar_3b067_56 : decode cJ2_getChar_3b067 56 = .ok (.ishl, 1) := by decide +kernel
theorem dJ2_getChar_3b067_57 : decode cJ2_getChar_3b067 57 = .ok (.ior, 1) := by decide +kernel
theorem dJ2_getChar_3b067_58 : decode cJ2_getChar_3b067 58 = .ok (.i2c, 1) := by decide +kernel
theorem dJ2_getChar_3b067_59 : decode cJ2_getChar_3b067 59 = .ok (.ireturn, 1) := by decide +kernel
theorem dJ2_length_9d52b_0 : decode cJ2_length_9d52b 0 = .ok (.aload_n 0, 1) := by decide +kernel
theorem dJ2_length_9d52b_1 : decode cJ2_length_9d52b 1 = .ok (.arraylength, 1) := by decide +kernel
theorem dJ2_length_9d52b_2 : decode cJ2_length_9d52b 2 = .ok (.iconst 1, 1) := by decide +kernel
theorem dJ2_length_9d52b_3 : decode cJ2_length_9d52b 3 = .ok (.ishr, 1) := by decide +kernel
theorem dJ2_length_9d52b_4 : decode cJ2_length_9d52b 4 = .ok (.ireturn, 1) := by decide +kernel
theorem dJ2_charAt_3b067_0 : decode cJ2_charAt_3b067 0 = .ok (.iload_n 1, 1) := by decide +kernel
theorem dJ2_charAt_3b067_1 : decode cJ2_charAt_3b067 1 = .ok (.aload_n 0, 1) := by decide +kernel
theorem dJ2_charAt_3b067_2 : decode cJ2_charAt_3b067 2 = .ok (.invokestatic 67, 3) := by decide +kernel
theorem dJ2_charAt_3b067_5 : decode cJ2_charAt_3b067 5 = .ok (.aload_n 0, 1) := by decide +kernel
theorem dJ2_charAt_3b067_6 : decode cJ2_charAt_3b067 6 = .ok (.iload_n 1, 1) := by decide +kernel
theorem dJ2_charAt_3b067_7 : decode cJ2_charAt_3b067 7 = .ok (.invokestatic 71, 3) := by decide +kernel
theorem dJ2_charAt_3b067_10 : decode cJ2_charAt_3b067 10 = .ok (.ireturn, 1) := by decide +kernel
theorem dJ2_checkIndex_2214a_0 : decode cJ2_checkIndex_2214a 0 = .ok (.iload_n 0, 1) := by decide +kernel
theorem dJ2_checkIndex_2214a_1 : decode cJ2_checkIndex_2214a 1 = .ok (.aload_n 1, 1) := by decide +kernel
theorem dJ2_checkIndex_2214a_2 : decode cJ2_checkIndex_2214a 2 = .ok (.invokestatic 48, 3) := by decide +kernel
theorem dJ2_checkIndex_2214a_5 : decode cJ2_checkIndex_2214a 5 = .ok (.invokestatic 414, 3) := by decide +kernel
theorem dJ2_checkIndex_2214a_8 : decode cJ2_checkIndex_2214a 8 = .ok (.return_, 1) := by decide +kernel
theorem dJ3_checkIndex_8e157_0 : decode cJ3_checkIndex_8e157 0 = .ok (.iload_n 0, 1) := by decide +kernel
theorem dJ3_checkIndex_8e157_1 : decode cJ3_checkIndex_8e157 1 = .ok (.ifCond .lt 8, 3) := by decide +kernel
theorem dJ3_checkIndex_8e157_4 : decode cJ3_checkIndex_8e157 4 = .ok (.iload_n 0, 1) := by decide +kernel
theorem dJ3_checkIndex_8e157_5 : decode cJ3_checkIndex_8e157 5 = .ok (.iload_n 1, 1) := by decide +kernel
theorem dJ3_checkIndex_8e157_6 : decode cJ3_checkIndex_8e157 6 = .ok (.if_icmp .lt 10, 3) := by decide +kernel
theorem dJ3_checkIndex_8e157_9 : decode cJ3_checkIndex_8e157 9 = .ok (.aload_n 2, 1) := by decide +kernel
theorem dJ3_checkIndex_8e157_10 : decode cJ3_checkIndex_8e157 10 = .ok (.iload_n 0, 1) := by decide +kernel
theorem dJ3_checkIndex_8e157_11 : decode cJ3_checkIndex_8e157 11 = .ok (.iload_n 1, 1) := by decide +kernel
theorem dJ3_checkIndex_8e157_12 : decode cJ3_checkIndex_8e157 12 = .ok (.invokestatic 95, 3) := by decide +kernel
theorem dJ3_checkIndex_8e157_15 : decode cJ3_checkIndex_8e157 15 = .ok (.athrow, 1) := by decide +kernel
theorem dJ3_checkIndex_8e157_16 : decode cJ3_checkIndex_8e157 16 = .ok (.iload_n 0, 1) := by decide +kernel
theorem dJ3_checkIndex_8e157_17 : decode cJ3_checkIndex_8e157 17 = .ok (.ireturn, 1) := by decide +kernel
