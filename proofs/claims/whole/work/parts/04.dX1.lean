theorem dX0_init_0 : decode cX0_init 0 = .ok (.aload_n 0, 1) := by decide +kernel
theorem dX0_init_1 : decode cX0_init 1 = .ok (.invokespecial 3, 3) := by decide +kernel
theorem dX0_init_4 : decode cX0_init 4 = .ok (.aload_n 0, 1) := by decide +kernel
theorem dX0_init_5 : decode cX0_init 5 = .ok (.sipush 200, 3) := by decide +kernel
theorem dX0_init_8 : decode cX0_init 8 = .ok (.newarray .long, 2) := by decide +kernel
theorem dX0_init_10 : decode cX0_init 10 = .ok (.putfield 9, 3) := by decide +kernel
theorem dX0_init_13 : decode cX0_init 13 = .ok (.aload_n 0, 1) := by decide +kernel
theorem dX0_init_14 : decode cX0_init 14 = .ok (.sipush 200, 3) := by decide +kernel
theorem dX0_init_17 : decode cX0_init 17 = .ok (.newarray .long, 2) := by decide +kernel
theorem dX0_init_19 : decode cX0_init 19 = .ok (.putfield 15, 3) := by decide +kernel
theorem dX0_init_22 : decode cX0_init 22 = .ok (.aload_n 0, 1) := by decide +kernel
theorem dX0_init_23 : decode cX0_init 23 = .ok (.new 18, 3) := by decide +kernel
theorem dX0_init_26 : decode cX0_init 26 = .ok (.dup, 1) := by decide +kernel
theorem dX0_init_27 : decode cX0_init 27 = .ok (.invokespecial 20, 3) := by decide +kernel
theorem dX0_init_30 : decode cX0_init 30 = .ok (.putfield 21, 3) := by decide +kernel
theorem dX0_init_33 : decode cX0_init 33 = .ok (.aload_n 0, 1) := by decide +kernel
theorem dX0_init_34 : decode cX0_init 34 = .ok (.new 18, 3) := by decide +kernel
theorem dX0_init_37 : decode cX0_init 37 = .ok (.dup, 1) := by decide +kernel
theorem dX0_init_38 : decode cX0_init 38 = .ok (.invokespecial 20, 3) := by decide +kernel
theorem dX0_init_41 : decode cX0_init 41 = .ok (.putfield 25, 3) := by decide +kernel
theorem dX0_init_44 : decode cX0_init 44 = .ok (.aload_n 0, 1) := by decide +kernel
theorem dX0_init_45 : decode cX0_init 45 = .ok (.iconst (-1), 1) := by decide +kernel
theorem dX0_init_46 : decode cX0_init 46 = .ok (.putfield 28, 3) := by decide +kernel
theorem dX0_init_49 : decode cX0_init 49 = .ok (.aload_n 0, 1) := by decide +kernel
theorem dX0_init_50 : decode cX0_init 50 = .ok (.aload_n 1, 1) := by decide +kernel
theorem dX0_init_51 : decode cX0_init 51 = .ok (.putfield 32, 3) := by decide +kernel
theorem dX0_init_54 : decode cX0_init 54 = .ok (.aload_n 0, 1) := by decide +kernel
theorem dX0_init_55 : decode cX0_init 55 = .ok (.new 36, 3) := by decide +kernel
theorem dX0_init_58 : decode cX0_init 58 = .ok (.dup, 1) := by decide +kernel
theorem dX0_init_59 : decode cX0_init 59 = .ok (.aload_n 1, 1) := by decide +kernel
theorem dX0_init_60 : decode cX0_init 60 = .ok (.invokespecial 38, 3) := by decide +kernel
theorem dX0_init_63 : decode cX0_init 63 = .ok (.putfield 41, 3) := by decide +kernel
theorem dX0_init_66 : decode cX0_init 66 = .ok (.return_, 1) := by decide +kernel
theorem dX0_translate_0 : decode cX0_translate 0 = .ok (.aload_n 0, 1) := by decide +kernel
theorem dX0_translate_1 : decode cX0_translate 1 = .ok (.iconst 0, 1) := by decide +kernel
theorem dX0_translate_2 : decode cX0_translate 2 = .ok (.putfield 45, 3) := by decide +kernel
theorem dX0_translate_5 : decode cX0_translate 5 = .ok (.aload_n 0, 1) := by decide +kernel
theorem dX0_translate_6 : decode cX0_translate 6 = .ok (.iconst (-1), 1) := by decide +kernel
theorem dX0_translate_7 : decode cX0_translate 7 = .ok (.putfield 28, 3) := by decide +kernel
theorem dX0_translate_10 : decode cX0_translate 10 = .ok (.aload_n 0, 1) := by decide +kernel
theorem dX0_translate_11 : decode cX0_translate 11 = .ok (.getfield 21, 3) := by decide +kernel
theorem dX0_translate_14 : decode cX0_translate 14 = .ok (.iconst 0, 1) := by decide +kernel
theorem dX0_translate_15 : decode cX0_translate 15 = .ok (.putfield 48, 3) := by decide +kernel
theorem dX0_translate_18 : decode cX0_translate 18 = .ok (.aload_n 0, 1) := by decide +kernel
theorem dX0_translate_19 : decode cX0_translate 19 = .ok (.iconst 0, 1) := by decide +kernel
theorem dX0_translate_20 : decode cX0_translate 20 = .ok (.putfield 51, 3) := by decide +kernel
theorem dX0_translate_23 : decode cX0_translate 23 = .ok (.aload_n 0, 1) := by decide +kernel
theorem dX0_translate_24 : decode cX0_translate 24 = .ok (.invokevirtual 55, 3) := by decide +kernel
theorem dX0_translate_27 : decode cX0_translate 27 = .ok (.aload_n 0, 1) := by decide +kernel
theorem dX0_translate_28 : decode cX0_translate 28 = .ok (.getfield 45, 3) := by decide +kernel
theorem dX0_translate_31 : decode cX0_translate 31 = .ok (.ifCond .ne 12, 3) := by decide +kernel
theorem dX0_translate_34 : decode cX0_translate 34 = .ok (.aload_n 0, 1) := by decide +kernel
theorem dX0_translate_35 : decode cX0_translate 35 = .ok (.iconst 1, 1) := by decide +kernel
theorem dX0_translate_36 : decode cX0_translate 36 = .ok (.putfield 51, 3) := by decide +kernel
theorem dX0_translate_39 : decode cX0_translate 39 = .ok (.aload_n 0, 1) := by decide +kernel
theorem dX0_translate_40 : decode cX0_translate 40 = .ok (.invokevirtual 55, 3) := by decide +kernel
theorem dX0_translate_43 : decode cX0_translate 43 = .ok (.aload_n 0, 1) := by decide +kernel
theorem dX0_translate_44 : decode cX0_translate 44 = .ok (.getfield 45, 3) := by decide +kernel
theorem dX0_translate_47 : decode cX0_translate 47 = .ok (.ifCond .ne 26, 3) := by decide +kernel
theorem dX0_translate_50 : decode cX0_translate 50 = .ok (.aload_n 0, 1) := by decide +kernel
theorem dX0_translate_51 : decode cX0_translate 51 = .ok (.getfield 25, 3) := by decide +kernel
theorem dX0_translate_54 : decode cX0_translate 54 = .ok (.astore_n 1, 1) := by decide +kernel
theorem dX0_translate_55 : decode cX0_translate 55 = .ok (.aload_n 0, 1) := by decide +kernel
theorem dX0_translate_56 : decode cX0_translate 56 = .ok (.aload_n 0, 1) := by decide +kernel
theorem dX0_translate_57 : decode cX0_translate 57 = .ok (.getfield 21, 3) := by decide +kernel
theorem dX0_translate_60 : decode cX0_translate 60 = .ok (.putfield 25, 3) := by decide +kernel
theorem dX0_translate_63 : decode cX0_translate 63 = .ok (.aload_n 0, 1) := by decide +kernel
theorem dX0_translate_64 : decode cX0_translate 64 = .ok (.aload_n 1, 1) := by decide +kernel
theorem dX0_translate_65 : decode cX0_translate 65 = .ok (.putfield 21, 3) := by decide +kernel
theorem dX0_translate_68 : decode cX0_translate 68 = .ok (.aload_n 0, 1) := by decide +kernel
theorem dX0_translate_69 : decode cX0_translate 69 = .ok (.iconst 1, 1) := by decide +kernel
theorem dX0_translate_70 : decode cX0_translate 70 = .ok (.putfield 58, 3) := by decide +kernel
theorem dX0_translate_73 : decode cX0_translate 73 = .ok (.aload_n 0, 1) := by decide +kernel
theorem dX0_translate_74 : decode cX0_translate 74 = .ok (.getfield 32, 3) := by decide +kernel
theorem dX0_translate_77 : decode cX0_translate 77 = .ok (.iconst 0, 1) := by decide +kernel
theorem dX0_translate_78 : decode cX0_translate 78 = .ok (.invokevirtual 61, 3) := by decide +kernel
theorem dX0_translate_81 : decode cX0_translate 81 = .ok (.aload_n 0, 1) := by decide +kernel
theorem dX0_translate_82 : decode cX0_translate 82 = .ok (.getfield 45, 3) := by decide +kernel
theorem dX0_translate_85 : decode cX0_translate 85 = .ok (.ireturn, 1) := by decide +kernel
theorem dX0_pass_0 : decode cX0_pass 0 = .ok (.aload_n 0, 1) := by decide +kernel
theorem dX0_pass_1 : decode cX0_pass 1 = .ok (.iconst 0, 1) := by decide +kernel
theorem dX0_pass_2 : decode cX0_pass 2 = .ok (.putfield 67, 3) := by decide +kernel
theorem dX0_pass_5 : decode cX0_pass 5 = .ok (.aload_n 0, 1) := by decide +kernel
theorem dX0_pass_6 : decode cX0_pass 6 = .ok (.iconst 0, 1) := by decide +kernel
theorem dX0_pass_7 : decode cX0_pass 7 = .ok (.putfield 70, 3) := by decide +kernel
theorem dX0_pass_10 : decode cX0_pass 10 = .ok (.aload_n 0, 1) := by decide +kernel
theorem dX0_pass_11 : decode cX0_pass 11 = .ok (.getfield 21, 3) := by decide +kernel
theorem dX0_pass_14 : decode cX0_pass 14 = .ok (.iconst 0, 1) := by decide +kernel
theorem dX0_pass_15 : decode cX0_pass 15 = .ok (.putfield 73, 3) := by decide +kernel
theorem dX0_pass_18 : decode cX0_pass 18 = .ok (.aload_n 0, 1) := by decide +kernel
theorem dX0_pass_19 : decode cX0_pass 19 = .ok (.getfield 21, 3) := by decide +kernel
theorem dX0_pass_22 : decode cX0_pass 22 = .ok (.iconst 0, 1) := by decide +kernel
theorem dX0_pass_23 : decode cX0_pass 23 = .ok (.putfield 76, 3) := by decide +kernel
theorem dX0_pass_26 : decode cX0_pass 26 = .ok (.aload_n 0, 1) := by decide +kernel
theorem dX0_pass_27 : decode cX0_pass 27 = .ok (.getfield 41, 3) := by decide +kernel
theorem dX0_pass_30 : decode cX0_pass 30 = .ok (.invokevirtual 79, 3) := by decide +kernel
theorem dX0_pass_33 : decode cX0_pass 33 = .ok (.iconst 1, 1) := by decide +kernel
theorem dX0_pass_34 : decode cX0_pass 34 = .ok (.istore_n 1, 1) := by decide +kernel
theorem dX0_pass_35 : decode cX0_pass 35 = .ok (.iconst 0, 1) := by decide +kernel
theorem dX0_pass_36 : decode cX0_pass 36 = .ok (.istore_n 2, 1) := by decide +kernel
theorem dX0_pass_37 : decode cX0_pass 37 = .ok (.iload_n 2, 1) := by decide +kernel
theorem dX0_pass_38 : decode cX0_pass 38 = .ok (.aload_n 0, 1) := by decide +kernel
theorem dX0_pass_39 : decode cX0_pass 39 = .ok (.getfield 32, 3) := by decide +kernel
theorem dX0_pass_42 : decode cX0_pass 42 = .ok (.getfield 82, 3) := by decide +kernel
theorem dX0_pass_45 : decode cX0_pass 45 = .ok (.if_icmp .gt 64, 3) := by decide +kernel
theorem dX0_pass_48 : decode cX0_pass 48 = .ok (.iload_n 1, 1) := by decide +kernel
theorem dX0_pass_49 : decode cX0_pass 49 = .ok (.ifCond .eq 60, 3) := by decide +kernel
theorem dX0_pass_52 : decode cX0_pass 52 = .ok (.aload_n 0, 1) := by decide +kernel
theorem dX0_pass_53 : decode cX0_pass 53 = .ok (.invokevirtual 85, 3) := by decide +kernel
theorem dX0_pass_56 : decode cX0_pass 56 = .ok (.astore_n 3, 1) := by decide +kernel
theorem dX0_pass_57 : decode cX0_pass 57 = .ok (.aload_n 3, 1) := by decide +kernel
theorem dX0_pass_58 : decode cX0_pass 58 = .ok (.ifnull 15, 3) := by decide +kernel
theorem dX0_pass_61 : decode cX0_pass 61 = .ok (.aload_n 0, 1) := by decide +kernel
theorem dX0_pass_62 : decode cX0_pass 62 = .ok (.getfield 45, 3) := by decide +kernel
theorem dX0_pass_65 : decode cX0_pass 65 = .ok (.ifCond .ne 8, 3) := by decide +kernel
theorem dX0_pass_68 : decode cX0_pass 68 = .ok (.aload_n 0, 1) := by decide +kernel
theorem dX0_pass_69 : decode cX0_pass 69 = .ok (.aload_n 3, 1) := by decide +kernel
theorem dX0_pass_70 : decode cX0_pass 70 = .ok (.invokevirtual 89, 3) := by decide +kernel
theorem dX0_pass_73 : decode cX0_pass 73 = .ok (.aload_n 0, 1) := by decide +kernel
theorem dX0_pass_74 : decode cX0_pass 74 = .ok (.getfield 45, 3) := by decide +kernel
theorem dX0_pass_77 : decode cX0_pass 77 = .ok (.ifCond .ne 24, 3) := by decide +kernel
theorem dX0_pass_80 : decode cX0_pass 80 = .ok (.aload_n 0, 1) := by decide +kernel
theorem dX0_pass_81 : decode cX0_pass 81 = .ok (.getfield 70, 3) := by decide +kernel
theorem dX0_pass_84 : decode cX0_pass 84 = .ok (.ifCond .ne 17, 3) := by decide +kernel
theorem dX0_pass_87 : decode cX0_pass 87 = .ok (.aload_n 0, 1) := by decide +kernel
theorem dX0_pass_88 : decode cX0_pass 88 = .ok (.getfield 41, 3) := by decide +kernel
theorem dX0_pass_91 : decode cX0_pass 91 = .ok (.invokevirtual 93, 3) := by decide +kernel
theorem dX0_pass_94 : decode cX0_pass 94 = .ok (.ifCond .eq 7, 3) := by decide +kernel
theorem dX0_pass_97 : decode cX0_pass 97 = .ok (.iconst 1, 1) := by decide +kernel
theorem dX0_pass_98 : decode cX0_pass 98 = .ok (.goto 4, 3) := by decide +kernel
theorem dX0_pass_101 : decode cX0_pass 101 = .ok (.iconst 0, 1) := by decide +kernel
theorem dX0_pass_102 : decode cX0_pass 102 = .ok (.istore_n 1, 1) := by decide +kernel
theorem dX0_pass_103 : decode cX0_pass 103 = .ok (.iinc 2 1, 3) := by decide +kernel
theorem dX0_pass_106 : decode cX0_pass 106 = .ok (.goto (-69), 3) := by decide +kernel
theorem dX0_pass_109 : decode cX0_pass 109 = .ok (.aload_n 0, 1) := by decide +kernel
theorem dX0_pass_110 : decode cX0_pass 110 = .ok (.getfield 67, 3) := by decide +kernel
theorem dX0_pass_113 : decode cX0_pass 113 = .ok (.ifCond .ne 15, 3) := by decide +kernel
theorem dX0_pass_116 : decode cX0_pass 116 = .ok (.aload_n 0, 1) := by decide +kernel
theorem dX0_pass_117 : decode cX0_pass 117 = .ok (.iconst 1, 1) := by decide +kernel
theorem dX0_pass_118 : decode cX0_pass 118 = .ok (.aload_n 0, 1) := by decide +kernel
theorem dX0_pass_119 : decode cX0_pass 119 = .ok (.getfield 32, 3) := by decide +kernel
theorem dX0_pass_122 : decode cX0_pass 122 = .ok (.getfield 82, 3) := by decide +kernel
theorem dX0_pass_125 : decode cX0_pass 125 = .ok (.invokevirtual 97, 3) := by decide +kernel
theorem dX0_pass_128 : decode cX0_pass 128 = .ok (.return_, 1) := by decide +kernel
theorem dX0_fail_0 : decode cX0_fail 0 = .ok (.aload_n 0, 1) := by decide +kernel
theorem dX0_fail_1 : decode cX0_fail 1 = .ok (.getfield 45, 3) := by decide +kernel
theorem dX0_fail_4 : decode cX0_fail 4 = .ok (.ifCond .ne 13, 3) := by decide +kernel
theorem dX0_fail_7 : decode cX0_fail 7 = .ok (.aload_n 0, 1) := by decide +kernel
theorem dX0_fail_8 : decode cX0_fail 8 = .ok (.iload_n 1, 1) := by decide +kernel
theorem dX0_fail_9 : decode cX0_fail 9 = .ok (.putfield 45, 3) := by decide +kernel
theorem dX0_fail_12 : decode cX0_fail 12 = .ok (.aload_n 0, 1) := by decide +kernel
theorem dX0_fail_13 : decode cX0_fail 13 = .ok (.iload_n 2, 1) := by decide +kernel
theorem dX0_fail_14 : decode cX0_fail 14 = .ok (.putfield 28, 3) := by decide +kernel
theorem dX0_fail_17 : decode cX0_fail 17 = .ok (.return_, 1) := by decide +kernel
theorem dX0_takeStart_0 : decode cX0_takeStart 0 = .ok (.aload_n 0, 1) := by decide +kernel
theorem dX0_takeStart_1 : decode cX0_takeStart 1 = .ok (.getfield 41, 3) := by decide +kernel
theorem dX0_takeStart_4 : decode cX0_takeStart 4 = .ok (.invokevirtual 101, 3) := by decide +kernel
theorem dX0_takeStart_7 : decode cX0_takeStart 7 = .ok (.aload_n 0, 1) := by decide +kernel
theorem dX0_takeStart_8 : decode cX0_takeStart 8 = .ok (.getfield 67, 3) := by decide +kernel
theorem dX0_takeStart_11 : decode cX0_takeStart 11 = .ok (.ifCond .eq 25, 3) := by decide +kernel
theorem dX0_takeStart_14 : decode cX0_takeStart 14 = .ok (.aload_n 0, 1) := by decide +kernel
theorem dX0_takeStart_15 : decode cX0_takeStart 15 = .ok (.getfield 41, 3) := by decide +kernel
theorem dX0_takeStart_18 : decode cX0_takeStart 18 = .ok (.getfield 104, 3) := by decide +kernel
theorem dX0_takeStart_21 : decode cX0_takeStart 21 = .ok (.iconst 4, 1) := by decide +kernel
theorem dX0_takeStart_22 : decode cX0_takeStart 22 = .ok (.if_icmp .ne 14, 3) := by decide +kernel
theorem dX0_takeStart_25 : decode cX0_takeStart 25 = .ok (.aload_n 0, 1) := by decide +kernel
theorem dX0_takeStart_26 : decode cX0_takeStart 26 = .ok (.invokevirtual 107, 3) := by decide +kernel
theorem dX0_takeStart_29 : decode cX0_takeStart 29 = .ok (.aload_n 0, 1) := by decide +kernel
theorem dX0_takeStart_30 : decode cX0_takeStart 30 = .ok (.getfield 41, 3) := by decide +kernel
theorem dX0_takeStart_33 : decode cX0_takeStart 33 = .ok (.invokevirtual 101, 3) := by decide +kernel
theorem dX0_takeStart_36 : decode cX0_takeStart 36 = .ok (.aload_n 0, 1) := by decide +kernel
theorem dX0_takeStart_37 : decode cX0_takeStart 37 = .ok (.getfield 41, 3) := by decide +kernel
theorem dX0_takeStart_40 : decode cX0_takeStart 40 = .ok (.getfield 104, 3) := by decide +kernel
theorem dX0_takeStart_43 : decode cX0_takeStart 43 = .ok (.iconst 1, 1) := by decide +kernel
theorem dX0_takeStart_44 : decode cX0_takeStart 44 = .ok (.if_icmp .ne 13, 3) := by decide +kernel
theorem dX0_takeStart_47 : decode cX0_takeStart 47 = .ok (.aload_n 0, 1) := by decide +kernel
theorem dX0_takeStart_48 : decode cX0_takeStart 48 = .ok (.getfield 41, 3) := by decide +kernel
theorem dX0_takeStart_51 : decode cX0_takeStart 51 = .ok (.getfield 110, 3) := by decide +kernel
theorem dX0_takeStart_54 : decode cX0_takeStart 54 = .ok (.goto 4, 3) := by decide +kernel
theorem dX0_takeStart_57 : decode cX0_takeStart 57 = .ok (.aconst_null, 1) := by decide +kernel
theorem dX0_takeStart_58 : decode cX0_takeStart 58 = .ok (.astore_n 1, 1) := by decide +kernel
theorem dX0_takeStart_59 : decode cX0_takeStart 59 = .ok (.aload_n 1, 1) := by decide +kernel
theorem dX0_takeStart_60 : decode cX0_takeStart 60 = .ok (.ifnull 24, 3) := by decide +kernel
theorem dX0_takeStart_63 : decode cX0_takeStart 63 = .ok (.aload_n 0, 1) := by decide +kernel
theorem dX0_takeStart_64 : decode cX0_takeStart 64 = .ok (.getfield 67, 3) := by decide +kernel
theorem dX0_takeStart_67 : decode cX0_takeStart 67 = .ok (.aload_n 1, 1) := by decide +kernel
theorem dX0_takeStart_68 : decode cX0_takeStart 68 = .ok (.getstatic 114, 3) := by decide +kernel
theorem dX0_takeStart_71 : decode cX0_takeStart 71 = .ok (.if_acmp .ne 7, 3) := by decide +kernel
theorem dX0_takeStart_74 : decode cX0_takeStart 74 = .ok (.iconst 1, 1) := by decide +kernel
theorem dX0_takeStart_75 : decode cX0_takeStart 75 = .ok (.goto 4, 3) := by decide +kernel
theorem dX0_takeStart_78 : decode cX0_takeStart 78 = .ok (.iconst 0, 1) := by decide +kernel
theorem dX0_takeStart_79 : decode cX0_takeStart 79 = .ok (.if_icmp .eq 5, 3) := by decide +kernel
theorem dX0_takeStart_82 : decode cX0_takeStart 82 = .ok (.aload_n 1, 1) := by decide +kernel
theorem dX0_takeStart_83 : decode cX0_takeStart 83 = .ok (.areturn, 1) := by decide +kernel
theorem dX0_takeStart_84 : decode cX0_takeStart 84 = .ok (.aload_n 0, 1) := by decide +kernel
theorem dX0_takeStart_85 : decode cX0_takeStart 85 = .ok (.getfield 41, 3) := by decide +kernel
theorem dX0_takeStart_88 : decode cX0_takeStart 88 = .ok (.getfield 104, 3) := by decide +kernel
theorem dX0_takeStart_91 : decode cX0_takeStart 91 = .ok (.ifCond .eq 15, 3) := by decide +kernel
theorem dX0_takeStart_94 : decode cX0_takeStart 94 = .ok (.aload_n 0, 1) := by decide +kernel
theorem dX0_takeStart_95 : decode cX0_takeStart 95 = .ok (.iconst 1, 1) := by decide +kernel
theorem dX0_takeStart_96 : decode cX0_takeStart 96 = .ok (.aload_n 0, 1) := by decide +kernel
theorem dX0_takeStart_97 : decode cX0_takeStart 97 = .ok (.getfield 41, 3) := by decide +kernel
theorem dX0_takeStart_100 : decode cX0_takeStart 100 = .ok (.getfield 119, 3) := by decide +kernel
theorem dX0_takeStart_103 : decode cX0_takeStart 103 = .ok (.invokevirtual 97, 3) := by decide +kernel
theorem dX0_takeStart_106 : decode cX0_takeStart 106 = .ok (.aconst_null, 1) := by decide +kernel
theorem dX0_takeStart_107 : decode cX0_takeStart 107 = .ok (.areturn, 1) := by decide +kernel
theorem dX0_tellLabel_0 : decode cX0_tellLabel 0 = .ok (.aload_n 0, 1) := by decide +kernel
theorem dX0_tellLabel_1 : decode cX0_tellLabel 1 = .ok (.getfield 51, 3) := by decide +kernel
theorem dX0_tellLabel_4 : decode cX0_tellLabel 4 = .ok (.ifCond .eq 4, 3) := by decide +kernel
theorem dX0_tellLabel_7 : decode cX0_tellLabel 7 = .ok (.return_, 1) := by decide +kernel
theorem dX0_tellLabel_8 : decode cX0_tellLabel 8 = .ok (.aload_n 0, 1) := by decide +kernel
theorem dX0_tellLabel_9 : decode cX0_tellLabel 9 = .ok (.getfield 21, 3) := by decide +kernel
theorem dX0_tellLabel_12 : decode cX0_tellLabel 12 = .ok (.getfield 48, 3) := by decide +kernel
theorem dX0_tellLabel_15 : decode cX0_tellLabel 15 = .ok (.istore_n 1, 1) := by decide +kernel
theorem dX0_tellLabel_16 : decode cX0_tellLabel 16 = .ok (.aload_n 0, 1) := by decide +kernel
theorem dX0_tellLabel_17 : decode cX0_tellLabel 17 = .ok (.invokevirtual 122, 3) := by decide +kernel
theorem dX0_tellLabel_20 : decode cX0_tellLabel 20 = .ok (.iconst (-1), 1) := by decide +kernel
theorem dX0_tellLabel_21 : decode cX0_tellLabel 21 = .ok (.if_icmp .eq 18, 3) := by decide +kernel
theorem dX0_tellLabel_24 : decode cX0_tellLabel 24 = .ok (.aload_n 0, 1) := by decide +kernel
theorem dX0_tellLabel_25 : decode cX0_tellLabel 25 = .ok (.iconst 3, 1) := by decide +kernel
theorem dX0_tellLabel_26 : decode cX0_tellLabel 26 = .ok (.aload_n 0, 1) := by decide +kernel
theorem dX0_tellLabel_27 : decode cX0_tellLabel 27 = .ok (.getfield 41, 3) := by decide +kernel
theorem dX0_tellLabel_30 : decode cX0_tellLabel 30 = .ok (.getfield 119, 3) := by decide +kernel
theorem dX0_tellLabel_33 : decode cX0_tellLabel 33 = .ok (.invokevirtual 97, 3) := by decide +kernel
theorem dX0_tellLabel_36 : decode cX0_tellLabel 36 = .ok (.goto 77, 3) := by decide +kernel
theorem dX0_tellLabel_39 : decode cX0_tellLabel 39 = .ok (.iload_n 1, 1) := by decide +kernel
theorem dX0_tellLabel_40 : decode cX0_tellLabel 40 = .ok (.sipush 200, 3) := by decide +kernel
theorem dX0_tellLabel_43 : decode cX0_tellLabel 43 = .ok (.if_icmp .lt 18, 3) := by decide +kernel
theorem dX0_tellLabel_46 : decode cX0_tellLabel 46 = .ok (.aload_n 0, 1) := by decide +kernel
theorem dX0_tellLabel_47 : decode cX0_tellLabel 47 = .ok (.iconst 4, 1) := by decide +kernel
theorem dX0_tellLabel_48 : decode cX0_tellLabel 48 = .ok (.aload_n 0, 1) := by decide +kernel
theorem dX0_tellLabel_49 : decode cX0_tellLabel 49 = .ok (.getfield 41, 3) := by decide +kernel
theorem dX0_tellLabel_52 : decode cX0_tellLabel 52 = .ok (.getfield 119, 3) := by decide +kernel
theorem dX0_tellLabel_55 : decode cX0_tellLabel 55 = .ok (.invokevirtual 97, 3) := by decide +kernel
theorem dX0_tellLabel_58 : decode cX0_tellLabel 58 = .ok (.goto 55, 3) := by decide +kernel
theorem dX0_tellLabel_61 : decode cX0_tellLabel 61 = .ok (.aload_n 0, 1) := by decide +kernel
theorem dX0_tellLabel_62 : decode cX0_tellLabel 62 = .ok (.getfield 9, 3) := by decide +kernel
theorem dX0_tellLabel_65 : decode cX0_tellLabel 65 = .ok (.iload_n 1, 1) := by decide +kernel
theorem dX0_tellLabel_66 : decode cX0_tellLabel 66 = .ok (.aload_n 0, 1) := by decide +kernel
theorem dX0_tellLabel_67 : decode cX0_tellLabel 67 = .ok (.getfield 41, 3) := by decide +kernel
theorem dX0_tellLabel_70 : decode cX0_tellLabel 70 = .ok (.getfield 126, 3) := by decide +kernel
theorem dX0_tellLabel_73 : decode cX0_tellLabel 73 = .ok (.lastore, 1) := by decide +kernel
theorem dX0_tellLabel_74 : decode cX0_tellLabel 74 = .ok (.aload_n 0, 1) := by decide +kernel
theorem dX0_tellLabel_75 : decode cX0_tellLabel 75 = .ok (.getfield 15, 3) := by decide +kernel
theorem dX0_tellLabel_78 : decode cX0_tellLabel 78 = .ok (.iload_n 1, 1) := by decide +kernel
theorem dX0_tellLabel_79 : decode cX0_tellLabel 79 = .ok (.aload_n 0, 1) := by decide +kernel
theorem dX0_tellLabel_80 : decode cX0_tellLabel 80 = .ok (.getfield 41, 3) := by decide +kernel
theorem dX0_tellLabel_83 : decode cX0_tellLabel 83 = .ok (.getfield 130, 3) := by decide +kernel
theorem dX0_tellLabel_86 : decode cX0_tellLabel 86 = .ok (.lastore, 1) := by decide +kernel
theorem dX0_tellLabel_87 : decode cX0_tellLabel 87 = .ok (.aload_n 0, 1) := by decide +kernel
theorem dX0_tellLabel_88 : decode cX0_tellLabel 88 = .ok (.getfield 21, 3) := by decide +kernel
theorem dX0_tellLabel_91 : decode cX0_tellLabel 91 = .ok (.getfield 133, 3) := by decide +kernel
theorem dX0_tellLabel_94 : decode cX0_tellLabel 94 = .ok (.iload_n 1, 1) := by decide +kernel
theorem dX0_tellLabel_95 : decode cX0_tellLabel 95 = .ok (.aload_n 0, 1) := by decide +kernel
theorem dX0_tellLabel_96 : decode cX0_tellLabel 96 = .ok (.getfield 21, 3) := by decide +kernel
theorem dX0_tellLabel_99 : decode cX0_tellLabel 99 = .ok (.invokevirtual 137, 3) := by decide +kernel
theorem dX0_tellLabel_102 : decode cX0_tellLabel 102 = .ok (.iastore, 1) := by decide +kernel
theorem dX0_tellLabel_103 : decode cX0_tellLabel 103 = .ok (.aload_n 0, 1) := by decide +kernel
theorem dX0_tellLabel_104 : decode cX0_tellLabel 104 = .ok (.getfield 21, 3) := by decide +kernel
theorem dX0_tellLabel_107 : decode cX0_tellLabel 107 = .ok (.iload_n 1, 1) := by decide +kernel
theorem dX0_tellLabel_108 : decode cX0_tellLabel 108 = .ok (.iconst 1, 1) := by decide +kernel
theorem dX0_tellLabel_109 : decode cX0_tellLabel 109 = .ok (.iadd, 1) := by decide +kernel
theorem dX0_tellLabel_110 : decode cX0_tellLabel 110 = .ok (.putfield 48, 3) := by decide +kernel
theorem dX0_tellLabel_113 : decode cX0_tellLabel 113 = .ok (.return_, 1) := by decide +kernel
theorem dX0_findLabel_0 : decode cX0_findLabel 0 = .ok (.iconst 0, 1) := by decide +kernel
theorem dX0_findLabel_1 : decode cX0_findLabel 1 = .ok (.istore_n 1, 1) := by decide +kernel
theorem dX0_findLabel_2 : decode cX0_findLabel 2 = .ok (.iload_n 1, 1) := by decide +kernel
theorem dX0_findLabel_3 : decode cX0_findLabel 3 = .ok (.aload_n 0, 1) := by decide +kernel
theorem dX0_findLabel_4 : decode cX0_findLabel 4 = .ok (.getfield 21, 3) := by decide +kernel
theorem dX0_findLabel_7 : decode cX0_findLabel 7 = .ok (.getfield 48, 3) := by decide +kernel
theorem dX0_findLabel_10 : decode cX0_findLabel 10 = .ok (.if_icmp .ge 52, 3) := by decide +kernel
theorem dX0_findLabel_13 : decode cX0_findLabel 13 = .ok (.iload_n 1, 1) := by decide +kernel
theorem dX0_findLabel_14 : decode cX0_findLabel 14 = .ok (.sipush 200, 3) := by decide +kernel
theorem dX0_findLabel_17 : decode cX0_findLabel 17 = .ok (.if_icmp .ge 45, 3) := by decide +kernel
theorem dX0_findLabel_20 : decode cX0_findLabel 20 = .ok (.aload_n 0, 1) := by decide +kernel
theorem dX0_findLabel_21 : decode cX0_findLabel 21 = .ok (.getfield 9, 3) := by decide +kernel
theorem dX0_findLabel_24 : decode cX0_findLabel 24 = .ok (.iload_n 1, 1) := by decide +kernel
theorem dX0_findLabel_25 : decode cX0_findLabel 25 = .ok (.laload, 1) := by decide +kernel
theorem dX0_findLabel_26 : decode cX0_findLabel 26 = .ok (.aload_n 0, 1) := by decide +kernel
theorem dX0_findLabel_27 : decode cX0_findLabel 27 = .ok (.getfield 41, 3) := by decide +kernel
theorem dX0_findLabel_30 : decode cX0_findLabel 30 = .ok (.getfield 126, 3) := by decide +kernel
theorem dX0_findLabel_33 : decode cX0_findLabel 33 = .ok (.lcmp, 1) := by decide +kernel
theorem dX0_findLabel_34 : decode cX0_findLabel 34 = .ok (.ifCond .ne 22, 3) := by decide +kernel
theorem dX0_findLabel_37 : decode cX0_findLabel 37 = .ok (.aload_n 0, 1) := by decide +kernel
theorem dX0_findLabel_38 : decode cX0_findLabel 38 = .ok (.getfield 15, 3) := by decide +kernel
theorem dX0_findLabel_41 : decode cX0_findLabel 41 = .ok (.iload_n 1, 1) := by decide +kernel
theorem dX0_findLabel_42 : decode cX0_findLabel 42 = .ok (.laload, 1) := by decide +kernel
theorem dX0_findLabel_43 : decode cX0_findLabel 43 = .ok (.aload_n 0, 1) := by decide +kernel
theorem dX0_findLabel_44 : decode cX0_findLabel 44 = .ok (.getfield 41, 3) := by decide +kernel
theorem dX0_findLabel_47 : decode cX0_findLabel 47 = .ok (.getfield 130, 3) := by decide +kernel
theorem dX0_findLabel_50 : decode cX0_findLabel 50 = .ok (.lcmp, 1) := by decide +kernel
theorem dX0_findLabel_51 : decode cX0_findLabel 51 = .ok (.ifCond .ne 5, 3) := by decide +kernel
theorem dX0_findLabel_54 : decode cX0_findLabel 54 = .ok (.iload_n 1, 1) := by decide +kernel
theorem dX0_findLabel_55 : decode cX0_findLabel 55 = .ok (.ireturn, 1) := by decide +kernel
theorem dX0_findLabel_56 : decode cX0_findLabel 56 = .ok (.iinc 1 1, 3) := by decide +kernel
theorem dX0_findLabel_59 : decode cX0_findLabel 59 = .ok (.goto (-57), 3) := by decide +kernel
theorem dX0_findLabel_62 : decode cX0_findLabel 62 = .ok (.iconst (-1), 1) := by decide +kernel
theorem dX0_findLabel_63 : decode cX0_findLabel 63 = .ok (.ireturn, 1) := by decide +kernel
theorem dX0_takeStatement_0 : decode cX0_takeStatement 0 = .ok (.aload_n 0, 1) := by decide +kernel
theorem dX0_takeStatement_1 : decode cX0_takeStatement 1 = .ok (.getfield 41, 3) := by decide +kernel
theorem dX0_takeStatement_4 : decode cX0_takeStatement 4 = .ok (.getfield 119, 3) := by decide +kernel
theorem dX0_takeStatement_7 : decode cX0_takeStatement 7 = .ok (.istore_n 2, 1) := by decide +kernel
theorem dX0_takeStatement_8 : decode cX0_takeStatement 8 = .ok (.aload_n 1, 1) := by decide +kernel
theorem dX0_takeStatement_9 : decode cX0_takeStatement 9 = .ok (.invokevirtual 140, 3) := by decide +kernel
theorem dX0_takeStatement_12 : decode cX0_takeStatement 12 = .ok (.ifCond .eq 20, 3) := by decide +kernel
theorem dX0_takeStatement_15 : decode cX0_takeStatement 15 = .ok (.aload_n 0, 1) := by decide +kernel
theorem dX0_takeStatement_16 : decode cX0_takeStatement 16 = .ok (.getfield 21, 3) := by decide +kernel
theorem dX0_takeStatement_19 : decode cX0_takeStatement 19 = .ok (.iconst 1, 1) := by decide +kernel
theorem dX0_takeStatement_20 : decode cX0_takeStatement 20 = .ok (.invokevirtual 143, 3) := by decide +kernel
theorem dX0_takeStatement_23 : decode cX0_takeStatement 23 = .ok (.ifCond .ne 9, 3) := by decide +kernel
theorem dX0_takeStatement_26 : decode cX0_takeStatement 26 = .ok (.aload_n 0, 1) := by decide +kernel
theorem dX0_takeStatement_27 : decode cX0_takeStatement 27 = .ok (.iconst 4, 1) := by decide +kernel
theorem dX0_takeStatement_28 : decode cX0_takeStatement 28 = .ok (.iload_n 2, 1) := by decide +kernel
theorem dX0_takeStatement_29 : decode cX0_takeStatement 29 = .ok (.invokevirtual 97, 3) := by decide +kernel
theorem dX0_takeStatement_32 : decode cX0_takeStatement 32 = .ok (.aload_n 0, 1) := by decide +kernel
theorem dX0_takeStatement_33 : decode cX0_takeStatement 33 = .ok (.aload_n 1, 1) := by decide +kernel
theorem dX0_takeStatement_34 : decode cX0_takeStatement 34 = .ok (.getfield 147, 3) := by decide +kernel
theorem dX0_takeStatement_37 : decode cX0_takeStatement 37 = .ok (.putfield 150, 3) := by decide +kernel
theorem dX0_takeStatement_40 : decode cX0_takeStatement 40 = .ok (.iconst 0, 1) := by decide +kernel
theorem dX0_takeStatement_41 : decode cX0_takeStatement 41 = .ok (.istore_n 3, 1) := by decide +kernel
theorem dX0_takeStatement_42 : decode cX0_takeStatement 42 = .ok (.iload_n 3, 1) := by decide +kernel
theorem dX0_takeStatement_43 : decode cX0_takeStatement 43 = .ok (.aload_n 1, 1) := by decide +kernel
theorem dX0_takeStatement_44 : decode cX0_takeStatement 44 = .ok (.getfield 153, 3) := by decide +kernel
theorem dX0_takeStatement_47 : decode cX0_takeStatement 47 = .ok (.invokevirtual 157, 3) := by decide +kernel
theorem dX0_takeStatement_50 : decode cX0_takeStatement 50 = .ok (.if_icmp .ge 36, 3) := by decide +kernel
theorem dX0_takeStatement_53 : decode cX0_takeStatement 53 = .ok (.aload_n 0, 1) := by decide +kernel
theorem dX0_takeStatement_54 : decode cX0_takeStatement 54 = .ok (.getfield 45, 3) := by decide +kernel
theorem dX0_takeStatement_57 : decode cX0_takeStatement 57 = .ok (.ifCond .ne 29, 3) := by decide +kernel
theorem dX0_takeStatement_60 : decode cX0_takeStatement 60 = .ok (.aload_n 0, 1) := by decide +kernel
theorem dX0_takeStatement_61 : decode cX0_takeStatement 61 = .ok (.getfield 41, 3) := by decide +kernel
theorem dX0_takeStatement_64 : decode cX0_takeStatement 64 = .ok (.invokevirtual 101, 3) := by decide +kernel
theorem dX0_takeStatement_67 : decode cX0_takeStatement 67 = .ok (.aload_n 0, 1) := by decide +kernel
theorem dX0_takeStatement_68 : decode cX0_takeStatement 68 = .ok (.aload_n 1, 1) := by decide +kernel
theorem dX0_takeStatement_69 : decode cX0_takeStatement 69 = .ok (.getfield 153, 3) := by decide +kernel
theorem dX0_takeStatement_72 : decode cX0_takeStatement 72 = .ok (.iload_n 3, 1) := by decide +kernel
theorem dX0_takeStatement_73 : decode cX0_takeStatement 73 = .ok (.invokevirtual 161, 3) := by decide +kernel
theorem dX0_takeStatement_76 : decode cX0_takeStatement 76 = .ok (.iload_n 2, 1) := by decide +kernel
theorem dX0_takeStatement_77 : decode cX0_takeStatement 77 = .ok (.invokevirtual 165, 3) := by decide +kernel
theorem dX0_takeStatement_80 : decode cX0_takeStatement 80 = .ok (.iinc 3 1, 3) := by decide +kernel
theorem dX0_takeStatement_83 : decode cX0_takeStatement 83 = .ok (.goto (-41), 3) := by decide +kernel
theorem dX0_takeStatement_86 : decode cX0_takeStatement 86 = .ok (.aload_n 0, 1) := by decide +kernel
theorem dX0_takeStatement_87 : decode cX0_takeStatement 87 = .ok (.getfield 45, 3) := by decide +kernel
theorem dX0_takeStatement_90 : decode cX0_takeStatement 90 = .ok (.ifCond .eq 4, 3) := by decide +kernel
theorem dX0_takeStatement_93 : decode cX0_takeStatement 93 = .ok (.return_, 1) := by decide +kernel
theorem dX0_takeStatement_94 : decode cX0_takeStatement 94 = .ok (.aload_n 1, 1) := by decide +kernel
theorem dX0_takeStatement_95 : decode cX0_takeStatement 95 = .ok (.invokevirtual 140, 3) := by decide +kernel
theorem dX0_takeStatement_98 : decode cX0_takeStatement 98 = .ok (.ifCond .eq 14, 3) := by decide +kernel
theorem dX0_takeStatement_101 : decode cX0_takeStatement 101 = .ok (.aload_n 0, 1) := by decide +kernel
theorem dX0_takeStatement_102 : decode cX0_takeStatement 102 = .ok (.getfield 21, 3) := by decide +kernel
theorem dX0_takeStatement_105 : decode cX0_takeStatement 105 = .ok (.aload_n 0, 1) := by decide +kernel
theorem dX0_takeStatement_106 : decode cX0_takeStatement 106 = .ok (.getfield 150, 3) := by decide +kernel
theorem dX0_takeStatement_109 : decode cX0_takeStatement 109 = .ok (.invokevirtual 169, 3) := by decide +kernel
theorem dX0_takeStatement_112 : decode cX0_takeStatement 112 = .ok (.aload_n 0, 1) := by decide +kernel
theorem dX0_takeStatement_113 : decode cX0_takeStatement 113 = .ok (.iconst 1, 1) := by decide +kernel
theorem dX0_takeStatement_114 : decode cX0_takeStatement 114 = .ok (.putfield 67, 3) := by decide +kernel
theorem dX0_takeStatement_117 : decode cX0_takeStatement 117 = .ok (.aload_n 0, 1) := by decide +kernel
theorem dX0_takeStatement_118 : decode cX0_takeStatement 118 = .ok (.aload_n 1, 1) := by decide +kernel
theorem dX0_takeStatement_119 : decode cX0_takeStatement 119 = .ok (.getstatic 172, 3) := by decide +kernel
theorem dX0_takeStatement_122 : decode cX0_takeStatement 122 = .ok (.if_acmp .ne 7, 3) := by decide +kernel
theorem dX0_takeStatement_125 : decode cX0_takeStatement 125 = .ok (.iconst 1, 1) := by decide +kernel
theorem dX0_takeStatement_126 : decode cX0_takeStatement 126 = .ok (.goto 4, 3) := by decide +kernel
theorem dX0_takeStatement_129 : decode cX0_takeStatement 129 = .ok (.iconst 0, 1) := by decide +kernel
theorem dX0_takeStatement_130 : decode cX0_takeStatement 130 = .ok (.putfield 70, 3) := by decide +kernel
theorem dX0_takeStatement_133 : decode cX0_takeStatement 133 = .ok (.aload_n 0, 1) := by decide +kernel
theorem dX0_takeStatement_134 : decode cX0_takeStatement 134 = .ok (.getfield 41, 3) := by decide +kernel
theorem dX0_takeStatement_137 : decode cX0_takeStatement 137 = .ok (.invokevirtual 101, 3) := by decide +kernel
theorem dX0_takeStatement_140 : decode cX0_takeStatement 140 = .ok (.aload_n 0, 1) := by decide +kernel
theorem dX0_takeStatement_141 : decode cX0_takeStatement 141 = .ok (.getfield 41, 3) := by decide +kernel
theorem dX0_takeStatement_144 : decode cX0_takeStatement 144 = .ok (.getfield 104, 3) := by decide +kernel
theorem dX0_takeStatement_147 : decode cX0_takeStatement 147 = .ok (.ifCond .eq 15, 3) := by decide +kernel
theorem dX0_takeStatement_150 : decode cX0_takeStatement 150 = .ok (.aload_n 0, 1) := by decide +kernel
theorem dX0_takeStatement_151 : decode cX0_takeStatement 151 = .ok (.iconst 1, 1) := by decide +kernel
theorem dX0_takeStatement_152 : decode cX0_takeStatement 152 = .ok (.aload_n 0, 1) := by decide +kernel
theorem dX0_takeStatement_153 : decode cX0_takeStatement 153 = .ok (.getfield 41, 3) := by decide +kernel
theorem dX0_takeStatement_156 : decode cX0_takeStatement 156 = .ok (.getfield 119, 3) := by decide +kernel
theorem dX0_takeStatement_159 : decode cX0_takeStatement 159 = .ok (.invokevirtual 97, 3) := by decide +kernel
theorem dX0_takeStatement_162 : decode cX0_takeStatement 162 = .ok (.return_, 1) := by decide +kernel
theorem dX0_takeOperand_0 : decode cX0_takeOperand 0 = .ok (.iload_n 1, 1) := by decide +kernel
theorem dX0_takeOperand_1 : decode cX0_takeOperand 1 = .ok (.tableswitch 200 65 87 #[116, 184, 200, 107, 200, 177, 200, 200, 200, 168, 200, 200, 200, 200, 132, 200, 200, 200, 125, 192, 200, 145, 159], 107) := by decide +kernel
theorem dX0_takeOperand_108 : decode cX0_takeOperand 108 = .ok (.aload_n 0, 1) := by decide +kernel
theorem dX0_takeOperand_109 : decode cX0_takeOperand 109 = .ok (.bipush 9, 2) := by decide +kernel
theorem dX0_takeOperand_111 : decode cX0_takeOperand 111 = .ok (.invokevirtual 175, 3) := by decide +kernel
theorem dX0_takeOperand_114 : decode cX0_takeOperand 114 = .ok (.goto 110, 3) := by decide +kernel
theorem dX0_takeOperand_117 : decode cX0_takeOperand 117 = .ok (.aload_n 0, 1) := by decide +kernel
theorem dX0_takeOperand_118 : decode cX0_takeOperand 118 = .ok (.bipush 6, 2) := by decide +kernel
theorem dX0_takeOperand_120 : decode cX0_takeOperand 120 = .ok (.invokevirtual 175, 3) := by decide +kernel
theorem dX0_takeOperand_123 : decode cX0_takeOperand 123 = .ok (.goto 101, 3) := by decide +kernel
theorem dX0_takeOperand_126 : decode cX0_takeOperand 126 = .ok (.aload_n 0, 1) := by decide +kernel
theorem dX0_takeOperand_127 : decode cX0_takeOperand 127 = .ok (.invokevirtual 178, 3) := by decide +kernel
theorem dX0_takeOperand_130 : decode cX0_takeOperand 130 = .ok (.goto 94, 3) := by decide +kernel
theorem dX0_takeOperand_133 : decode cX0_takeOperand 133 = .ok (.aload_n 0, 1) := by decide +kernel
theorem dX0_takeOperand_134 : decode cX0_takeOperand 134 = .ok (.bipush (-32), 2) := by decide +kernel
theorem dX0_takeOperand_136 : decode cX0_takeOperand 136 = .ok (.bipush 31, 2) := by decide +kernel
theorem dX0_takeOperand_138 : decode cX0_takeOperand 138 = .ok (.bipush 63, 2) := by decide +kernel
theorem dX0_takeOperand_140 : decode cX0_takeOperand 140 = .ok (.invokevirtual 181, 3) := by decide +kernel
theorem dX0_takeOperand_143 : decode cX0_takeOperand 143 = .ok (.goto 81, 3) := by decide +kernel
theorem dX0_takeOperand_146 : decode cX0_takeOperand 146 = .ok (.aload_n 0, 1) := by decide +kernel
theorem dX0_takeOperand_147 : decode cX0_takeOperand 147 = .ok (.iconst 0, 1) := by decide +kernel
theorem dX0_takeOperand_148 : decode cX0_takeOperand 148 = .ok (.sipush 255, 3) := by decide +kernel
theorem dX0_takeOperand_151 : decode cX0_takeOperand 151 = .ok (.sipush 255, 3) := by decide +kernel
theorem dX0_takeOperand_154 : decode cX0_takeOperand 154 = .ok (.invokevirtual 181, 3) := by decide +kernel
theorem dX0_takeOperand_157 : decode cX0_takeOperand 157 = .ok (.goto 67, 3) := by decide +kernel
theorem dX0_takeOperand_160 : decode cX0_takeOperand 160 = .ok (.aload_n 0, 1) := by decide +kernel
theorem dX0_takeOperand_161 : decode cX0_takeOperand 161 = .ok (.bipush 9, 2) := by decide +kernel
theorem dX0_takeOperand_163 : decode cX0_takeOperand 163 = .ok (.invokevirtual 185, 3) := by decide +kernel
theorem dX0_takeOperand_166 : decode cX0_takeOperand 166 = .ok (.goto 58, 3) := by decide +kernel
theorem dX0_takeOperand_169 : decode cX0_takeOperand 169 = .ok (.aload_n 0, 1) := by decide +kernel
theorem dX0_takeOperand_170 : decode cX0_takeOperand 170 = .ok (.bipush 11, 2) := by decide +kernel
theorem dX0_takeOperand_172 : decode cX0_takeOperand 172 = .ok (.invokevirtual 185, 3) := by decide +kernel
theorem dX0_takeOperand_175 : decode cX0_takeOperand 175 = .ok (.goto 49, 3) := by decide +kernel
theorem dX0_takeOperand_178 : decode cX0_takeOperand 178 = .ok (.aload_n 0, 1) := by decide +kernel
theorem dX0_takeOperand_179 : decode cX0_takeOperand 179 = .ok (.invokevirtual 188, 3) := by decide +kernel
theorem dX0_takeOperand_182 : decode cX0_takeOperand 182 = .ok (.goto 42, 3) := by decide +kernel
theorem dX0_takeOperand_185 : decode cX0_takeOperand 185 = .ok (.aload_n 0, 1) := by decide +kernel
theorem dX0_takeOperand_186 : decode cX0_takeOperand 186 = .ok (.iload_n 2, 1) := by decide +kernel
theorem dX0_takeOperand_187 : decode cX0_takeOperand 187 = .ok (.invokevirtual 191, 3) := by decide +kernel
theorem dX0_takeOperand_190 : decode cX0_takeOperand 190 = .ok (.goto 34, 3) := by decide +kernel
theorem dX0_takeOperand_193 : decode cX0_takeOperand 193 = .ok (.aload_n 0, 1) := by decide +kernel
theorem dX0_takeOperand_194 : decode cX0_takeOperand 194 = .ok (.iload_n 2, 1) := by decide +kernel
theorem dX0_takeOperand_195 : decode cX0_takeOperand 195 = .ok (.invokevirtual 194, 3) := by decide +kernel
theorem dX0_takeOperand_198 : decode cX0_takeOperand 198 = .ok (.goto 26, 3) := by decide +kernel
theorem dX0_takeOperand_201 : decode cX0_takeOperand 201 = .ok (.aload_n 0, 1) := by decide +kernel
theorem dX0_takeOperand_202 : decode cX0_takeOperand 202 = .ok (.iconst 0, 1) := by decide +kernel
theorem dX0_takeOperand_203 : decode cX0_takeOperand 203 = .ok (.ldc 197, 2) := by decide +kernel
theorem dX0_takeOperand_205 : decode cX0_takeOperand 205 = .ok (.ldc 197, 2) := by decide +kernel
theorem dX0_takeOperand_207 : decode cX0_takeOperand 207 = .ok (.invokevirtual 181, 3) := by decide +kernel
theorem dX0_takeOperand_210 : decode cX0_takeOperand 210 = .ok (.aload_n 0, 1) := by decide +kernel
theorem dX0_takeOperand_211 : decode cX0_takeOperand 211 = .ok (.getfield 21, 3) := by decide +kernel
theorem dX0_takeOperand_214 : decode cX0_takeOperand 214 = .ok (.aload_n 0, 1) := by decide +kernel
theorem dX0_takeOperand_215 : decode cX0_takeOperand 215 = .ok (.getfield 41, 3) := by decide +kernel
theorem dX0_takeOperand_218 : decode cX0_takeOperand 218 = .ok (.getfield 198, 3) := by decide +kernel
theorem dX0_takeOperand_221 : decode cX0_takeOperand 221 = .ok (.putfield 76, 3) := by decide +kernel
theorem dX0_takeOperand_224 : decode cX0_takeOperand 224 = .ok (.return_, 1) := by decide +kernel
theorem dX0_takeRegister_0 : decode cX0_takeRegister 0 = .ok (.aload_n 0, 1) := by decide +kernel
theorem dX0_takeRegister_1 : decode cX0_takeRegister 1 = .ok (.getfield 41, 3) := by decide +kernel
theorem dX0_takeRegister_4 : decode cX0_takeRegister 4 = .ok (.getfield 104, 3) := by decide +kernel
theorem dX0_takeRegister_7 : decode cX0_takeRegister 7 = .ok (.iconst 3, 1) := by decide +kernel
theorem dX0_takeRegister_8 : decode cX0_takeRegister 8 = .ok (.if_icmp .eq 18, 3) := by decide +kernel
theorem dX0_takeRegister_11 : decode cX0_takeRegister 11 = .ok (.aload_n 0, 1) := by decide +kernel
theorem dX0_takeRegister_12 : decode cX0_takeRegister 12 = .ok (.iconst 1, 1) := by decide +kernel
theorem dX0_takeRegister_13 : decode cX0_takeRegister 13 = .ok (.aload_n 0, 1) := by decide +kernel
theorem dX0_takeRegister_14 : decode cX0_takeRegister 14 = .ok (.getfield 41, 3) := by decide +kernel
theorem dX0_takeRegister_17 : decode cX0_takeRegister 17 = .ok (.getfield 119, 3) := by decide +kernel
theorem dX0_takeRegister_20 : decode cX0_takeRegister 20 = .ok (.invokevirtual 97, 3) := by decide +kernel
theorem dX0_takeRegister_23 : decode cX0_takeRegister 23 = .ok (.goto 21, 3) := by decide +kernel
theorem dX0_takeRegister_26 : decode cX0_takeRegister 26 = .ok (.aload_n 0, 1) := by decide +kernel
theorem dX0_takeRegister_27 : decode cX0_takeRegister 27 = .ok (.dup, 1) := by decide +kernel
theorem dX0_takeRegister_28 : decode cX0_takeRegister 28 = .ok (.getfield 150, 3) := by decide +kernel
theorem dX0_takeRegister_31 : decode cX0_takeRegister 31 = .ok (.aload_n 0, 1) := by decide +kernel
theorem dX0_takeRegister_32 : decode cX0_takeRegister 32 = .ok (.getfield 41, 3) := by decide +kernel
theorem dX0_takeRegister_35 : decode cX0_takeRegister 35 = .ok (.getfield 198, 3) := by decide +kernel
theorem dX0_takeRegister_38 : decode cX0_takeRegister 38 = .ok (.iload_n 1, 1) := by decide +kernel
theorem dX0_takeRegister_39 : decode cX0_takeRegister 39 = .ok (.ishl, 1) := by decide +kernel
theorem dX0_takeRegister_40 : decode cX0_takeRegister 40 = .ok (.ior, 1) := by decide +kernel
theorem dX0_takeRegister_41 : decode cX0_takeRegister 41 = .ok (.putfield 150, 3) := by decide +kernel
theorem dX0_takeRegister_44 : decode cX0_takeRegister 44 = .ok (.return_, 1) := by decide +kernel
theorem dX0_takeNumber_0 : decode cX0_takeNumber 0 = .ok (.aload_n 0, 1) := by decide +kernel
theorem dX0_takeNumber_1 : decode cX0_takeNumber 1 = .ok (.getfield 41, 3) := by decide +kernel
theorem dX0_takeNumber_4 : decode cX0_takeNumber 4 = .ok (.getfield 104, 3) := by decide +kernel
theorem dX0_takeNumber_7 : decode cX0_takeNumber 7 = .ok (.iconst 2, 1) := by decide +kernel
theorem dX0_takeNumber_8 : decode cX0_takeNumber 8 = .ok (.if_icmp .eq 18, 3) := by decide +kernel
theorem dX0_takeNumber_11 : decode cX0_takeNumber 11 = .ok (.aload_n 0, 1) := by decide +kernel
theorem dX0_takeNumber_12 : decode cX0_takeNumber 12 = .ok (.iconst 1, 1) := by decide +kernel
theorem dX0_takeNumber_13 : decode cX0_takeNumber 13 = .ok (.aload_n 0, 1) := by decide +kernel
theorem dX0_takeNumber_14 : decode cX0_takeNumber 14 = .ok (.getfield 41, 3) := by decide +kernel
theorem dX0_takeNumber_17 : decode cX0_takeNumber 17 = .ok (.getfield 119, 3) := by decide +kernel
theorem dX0_takeNumber_20 : decode cX0_takeNumber 20 = .ok (.invokevirtual 97, 3) := by decide +kernel
theorem dX0_takeNumber_23 : decode cX0_takeNumber 23 = .ok (.goto 58, 3) := by decide +kernel
theorem dX0_takeNumber_26 : decode cX0_takeNumber 26 = .ok (.aload_n 0, 1) := by decide +kernel
theorem dX0_takeNumber_27 : decode cX0_takeNumber 27 = .ok (.getfield 41, 3) := by decide +kernel
theorem dX0_takeNumber_30 : decode cX0_takeNumber 30 = .ok (.getfield 198, 3) := by decide +kernel
theorem dX0_takeNumber_33 : decode cX0_takeNumber 33 = .ok (.iload_n 1, 1) := by decide +kernel
theorem dX0_takeNumber_34 : decode cX0_takeNumber 34 = .ok (.if_icmp .lt 14, 3) := by decide +kernel
theorem dX0_takeNumber_37 : decode cX0_takeNumber 37 = .ok (.aload_n 0, 1) := by decide +kernel
theorem dX0_takeNumber_38 : decode cX0_takeNumber 38 = .ok (.getfield 41, 3) := by decide +kernel
theorem dX0_takeNumber_41 : decode cX0_takeNumber 41 = .ok (.getfield 198, 3) := by decide +kernel
theorem dX0_takeNumber_44 : decode cX0_takeNumber 44 = .ok (.iload_n 2, 1) := by decide +kernel
theorem dX0_takeNumber_45 : decode cX0_takeNumber 45 = .ok (.if_icmp .le 18, 3) := by decide +kernel
theorem dX0_takeNumber_48 : decode cX0_takeNumber 48 = .ok (.aload_n 0, 1) := by decide +kernel
theorem dX0_takeNumber_49 : decode cX0_takeNumber 49 = .ok (.iconst 2, 1) := by decide +kernel
theorem dX0_takeNumber_50 : decode cX0_takeNumber 50 = .ok (.aload_n 0, 1) := by decide +kernel
theorem dX0_takeNumber_51 : decode cX0_takeNumber 51 = .ok (.getfield 41, 3) := by decide +kernel
theorem dX0_takeNumber_54 : decode cX0_takeNumber 54 = .ok (.getfield 119, 3) := by decide +kernel
theorem dX0_takeNumber_57 : decode cX0_takeNumber 57 = .ok (.invokevirtual 97, 3) := by decide +kernel
theorem dX0_takeNumber_60 : decode cX0_takeNumber 60 = .ok (.goto 21, 3) := by decide +kernel
theorem dX0_takeNumber_63 : decode cX0_takeNumber 63 = .ok (.aload_n 0, 1) := by decide +kernel
theorem dX0_takeNumber_64 : decode cX0_takeNumber 64 = .ok (.dup, 1) := by decide +kernel
theorem dX0_takeNumber_65 : decode cX0_takeNumber 65 = .ok (.getfield 150, 3) := by decide +kernel
theorem dX0_takeNumber_68 : decode cX0_takeNumber 68 = .ok (.aload_n 0, 1) := by decide +kernel
theorem dX0_takeNumber_69 : decode cX0_takeNumber 69 = .ok (.getfield 41, 3) := by decide +kernel
theorem dX0_takeNumber_72 : decode cX0_takeNumber 72 = .ok (.getfield 198, 3) := by decide +kernel
theorem dX0_takeNumber_75 : decode cX0_takeNumber 75 = .ok (.iload_n 3, 1) := by decide +kernel
theorem dX0_takeNumber_76 : decode cX0_takeNumber 76 = .ok (.iand, 1) := by decide +kernel
theorem dX0_takeNumber_77 : decode cX0_takeNumber 77 = .ok (.ior, 1) := by decide +kernel
theorem dX0_takeNumber_78 : decode cX0_takeNumber 78 = .ok (.putfield 150, 3) := by decide +kernel
theorem dX0_takeNumber_81 : decode cX0_takeNumber 81 = .ok (.return_, 1) := by decide +kernel
theorem dX0_takeSecond_0 : decode cX0_takeSecond 0 = .ok (.aload_n 0, 1) := by decide +kernel
theorem dX0_takeSecond_1 : decode cX0_takeSecond 1 = .ok (.getfield 41, 3) := by decide +kernel
theorem dX0_takeSecond_4 : decode cX0_takeSecond 4 = .ok (.getfield 104, 3) := by decide +kernel
theorem dX0_takeSecond_7 : decode cX0_takeSecond 7 = .ok (.iconst 3, 1) := by decide +kernel
theorem dX0_takeSecond_8 : decode cX0_takeSecond 8 = .ok (.if_icmp .ne 11, 3) := by decide +kernel
theorem dX0_takeSecond_11 : decode cX0_takeSecond 11 = .ok (.aload_n 0, 1) := by decide +kernel
theorem dX0_takeSecond_12 : decode cX0_takeSecond 12 = .ok (.iconst 0, 1) := by decide +kernel
theorem dX0_takeSecond_13 : decode cX0_takeSecond 13 = .ok (.invokevirtual 175, 3) := by decide +kernel
theorem dX0_takeSecond_16 : decode cX0_takeSecond 16 = .ok (.goto 24, 3) := by decide +kernel
theorem dX0_takeSecond_19 : decode cX0_takeSecond 19 = .ok (.aload_n 0, 1) := by decide +kernel
theorem dX0_takeSecond_20 : decode cX0_takeSecond 20 = .ok (.bipush (-16), 2) := by decide +kernel
theorem dX0_takeSecond_22 : decode cX0_takeSecond 22 = .ok (.bipush 15, 2) := by decide +kernel
theorem dX0_takeSecond_24 : decode cX0_takeSecond 24 = .ok (.bipush 31, 2) := by decide +kernel
theorem dX0_takeSecond_26 : decode cX0_takeSecond 26 = .ok (.invokevirtual 181, 3) := by decide +kernel
theorem dX0_takeSecond_29 : decode cX0_takeSecond 29 = .ok (.aload_n 0, 1) := by decide +kernel
theorem dX0_takeSecond_30 : decode cX0_takeSecond 30 = .ok (.dup, 1) := by decide +kernel
theorem dX0_takeSecond_31 : decode cX0_takeSecond 31 = .ok (.getfield 150, 3) := by decide +kernel
theorem dX0_takeSecond_34 : decode cX0_takeSecond 34 = .ok (.bipush 32, 2) := by decide +kernel
theorem dX0_takeSecond_36 : decode cX0_takeSecond 36 = .ok (.ior, 1) := by decide +kernel
theorem dX0_takeSecond_37 : decode cX0_takeSecond 37 = .ok (.putfield 150, 3) := by decide +kernel
theorem dX0_takeSecond_40 : decode cX0_takeSecond 40 = .ok (.return_, 1) := by decide +kernel
theorem dX0_takeWhere_0 : decode cX0_takeWhere 0 = .ok (.iconst 1, 1) := by decide +kernel
theorem dX0_takeWhere_1 : decode cX0_takeWhere 1 = .ok (.iload_n 1, 1) := by decide +kernel
theorem dX0_takeWhere_2 : decode cX0_takeWhere 2 = .ok (.iconst 1, 1) := by decide +kernel
theorem dX0_takeWhere_3 : decode cX0_takeWhere 3 = .ok (.isub, 1) := by decide +kernel
theorem dX0_takeWhere_4 : decode cX0_takeWhere 4 = .ok (.ishl, 1) := by decide +kernel
theorem dX0_takeWhere_5 : decode cX0_takeWhere 5 = .ok (.istore_n 2, 1) := by decide +kernel
theorem dX0_takeWhere_6 : decode cX0_takeWhere 6 = .ok (.aload_n 0, 1) := by decide +kernel
theorem dX0_takeWhere_7 : decode cX0_takeWhere 7 = .ok (.getfield 41, 3) := by decide +kernel
theorem dX0_takeWhere_10 : decode cX0_takeWhere 10 = .ok (.getfield 104, 3) := by decide +kernel
theorem dX0_takeWhere_13 : decode cX0_takeWhere 13 = .ok (.iconst 4, 1) := by decide +kernel
theorem dX0_takeWhere_14 : decode cX0_takeWhere 14 = .ok (.if_icmp .eq 18, 3) := by decide +kernel
theorem dX0_takeWhere_17 : decode cX0_takeWhere 17 = .ok (.aload_n 0, 1) := by decide +kernel
theorem dX0_takeWhere_18 : decode cX0_takeWhere 18 = .ok (.iload_n 2, 1) := by decide +kernel
theorem dX0_takeWhere_19 : decode cX0_takeWhere 19 = .ok (.ineg, 1) := by decide +kernel
theorem dX0_takeWhere_20 : decode cX0_takeWhere 20 = .ok (.iload_n 2, 1) := by decide +kernel
theorem dX0_takeWhere_21 : decode cX0_takeWhere 21 = .ok (.iconst 1, 1) := by decide +kernel
theorem dX0_takeWhere_22 : decode cX0_takeWhere 22 = .ok (.isub, 1) := by decide +kernel
theorem dX0_takeWhere_23 : decode cX0_takeWhere 23 = .ok (.iconst 2, 1) := by decide +kernel
theorem dX0_takeWhere_24 : decode cX0_takeWhere 24 = .ok (.iload_n 2, 1) := by decide +kernel
theorem dX0_takeWhere_25 : decode cX0_takeWhere 25 = .ok (.imul, 1) := by decide +kernel
theorem dX0_takeWhere_26 : decode cX0_takeWhere 26 = .ok (.iconst 1, 1) := by decide +kernel
theorem dX0_takeWhere_27 : decode cX0_takeWhere 27 = .ok (.isub, 1) := by decide +kernel
theorem dX0_takeWhere_28 : decode cX0_takeWhere 28 = .ok (.invokevirtual 181, 3) := by decide +kernel
theorem dX0_takeWhere_31 : decode cX0_takeWhere 31 = .ok (.return_, 1) := by decide +kernel
theorem dX0_takeWhere_32 : decode cX0_takeWhere 32 = .ok (.aload_n 0, 1) := by decide +kernel
theorem dX0_takeWhere_33 : decode cX0_takeWhere 33 = .ok (.invokevirtual 201, 3) := by decide +kernel
theorem dX0_takeWhere_36 : decode cX0_takeWhere 36 = .ok (.istore_n 3, 1) := by decide +kernel
theorem dX0_takeWhere_37 : decode cX0_takeWhere 37 = .ok (.iload_n 3, 1) := by decide +kernel
theorem dX0_takeWhere_38 : decode cX0_takeWhere 38 = .ok (.aload_n 0, 1) := by decide +kernel
theorem dX0_takeWhere_39 : decode cX0_takeWhere 39 = .ok (.getfield 21, 3) := by decide +kernel
theorem dX0_takeWhere_42 : decode cX0_takeWhere 42 = .ok (.invokevirtual 137, 3) := by decide +kernel
theorem dX0_takeWhere_45 : decode cX0_takeWhere 45 = .ok (.iconst 1, 1) := by decide +kernel
theorem dX0_takeWhere_46 : decode cX0_takeWhere 46 = .ok (.iadd, 1) := by decide +kernel
theorem dX0_takeWhere_47 : decode cX0_takeWhere 47 = .ok (.isub, 1) := by decide +kernel
theorem dX0_takeWhere_48 : decode cX0_takeWhere 48 = .ok (.istore 4, 2) := by decide +kernel
theorem dX0_takeWhere_50 : decode cX0_takeWhere 50 = .ok (.aload_n 0, 1) := by decide +kernel
theorem dX0_takeWhere_51 : decode cX0_takeWhere 51 = .ok (.getfield 51, 3) := by decide +kernel
theorem dX0_takeWhere_54 : decode cX0_takeWhere 54 = .ok (.ifCond .eq 29, 3) := by decide +kernel
theorem dX0_takeWhere_57 : decode cX0_takeWhere 57 = .ok (.iload 4, 2) := by decide +kernel
theorem dX0_takeWhere_59 : decode cX0_takeWhere 59 = .ok (.iload_n 2, 1) := by decide +kernel
theorem dX0_takeWhere_60 : decode cX0_takeWhere 60 = .ok (.ineg, 1) := by decide +kernel
theorem dX0_takeWhere_61 : decode cX0_takeWhere 61 = .ok (.if_icmp .lt 9, 3) := by decide +kernel
theorem dX0_takeWhere_64 : decode cX0_takeWhere 64 = .ok (.iload 4, 2) := by decide +kernel
theorem dX0_takeWhere_66 : decode cX0_takeWhere 66 = .ok (.iload_n 2, 1) := by decide +kernel
theorem dX0_takeWhere_67 : decode cX0_takeWhere 67 = .ok (.if_icmp .lt 16, 3) := by decide +kernel
theorem dX0_takeWhere_70 : decode cX0_takeWhere 70 = .ok (.aload_n 0, 1) := by decide +kernel
theorem dX0_takeWhere_71 : decode cX0_takeWhere 71 = .ok (.bipush 6, 2) := by decide +kernel
theorem dX0_takeWhere_73 : decode cX0_takeWhere 73 = .ok (.aload_n 0, 1) := by decide +kernel
theorem dX0_takeWhere_74 : decode cX0_takeWhere 74 = .ok (.getfield 41, 3) := by decide +kernel
theorem dX0_takeWhere_77 : decode cX0_takeWhere 77 = .ok (.getfield 119, 3) := by decide +kernel
theorem dX0_takeWhere_80 : decode cX0_takeWhere 80 = .ok (.invokevirtual 97, 3) := by decide +kernel
theorem dX0_takeWhere_83 : decode cX0_takeWhere 83 = .ok (.aload_n 0, 1) := by decide +kernel
theorem dX0_takeWhere_84 : decode cX0_takeWhere 84 = .ok (.dup, 1) := by decide +kernel
theorem dX0_takeWhere_85 : decode cX0_takeWhere 85 = .ok (.getfield 150, 3) := by decide +kernel
theorem dX0_takeWhere_88 : decode cX0_takeWhere 88 = .ok (.iload 4, 2) := by decide +kernel
theorem dX0_takeWhere_90 : decode cX0_takeWhere 90 = .ok (.iconst 2, 1) := by decide +kernel
theorem dX0_takeWhere_91 : decode cX0_takeWhere 91 = .ok (.iload_n 2, 1) := by decide +kernel
theorem dX0_takeWhere_92 : decode cX0_takeWhere 92 = .ok (.imul, 1) := by decide +kernel
theorem dX0_takeWhere_93 : decode cX0_takeWhere 93 = .ok (.iconst 1, 1) := by decide +kernel
theorem dX0_takeWhere_94 : decode cX0_takeWhere 94 = .ok (.isub, 1) := by decide +kernel
theorem dX0_takeWhere_95 : decode cX0_takeWhere 95 = .ok (.iand, 1) := by decide +kernel
theorem dX0_takeWhere_96 : decode cX0_takeWhere 96 = .ok (.ior, 1) := by decide +kernel
theorem dX0_takeWhere_97 : decode cX0_takeWhere 97 = .ok (.putfield 150, 3) := by decide +kernel
theorem dX0_takeWhere_100 : decode cX0_takeWhere 100 = .ok (.return_, 1) := by decide +kernel
theorem dX0_takeValue_0 : decode cX0_takeValue 0 = .ok (.aload_n 0, 1) := by decide +kernel
theorem dX0_takeValue_1 : decode cX0_takeValue 1 = .ok (.getfield 41, 3) := by decide +kernel
theorem dX0_takeValue_4 : decode cX0_takeValue 4 = .ok (.getfield 104, 3) := by decide +kernel
theorem dX0_takeValue_7 : decode cX0_takeValue 7 = .ok (.iconst 4, 1) := by decide +kernel
theorem dX0_takeValue_8 : decode cX0_takeValue 8 = .ok (.if_icmp .ne 17, 3) := by decide +kernel
theorem dX0_takeValue_11 : decode cX0_takeValue 11 = .ok (.aload_n 0, 1) := by decide +kernel
theorem dX0_takeValue_12 : decode cX0_takeValue 12 = .ok (.aload_n 0, 1) := by decide +kernel
theorem dX0_takeValue_13 : decode cX0_takeValue 13 = .ok (.invokevirtual 201, 3) := by decide +kernel
theorem dX0_takeValue_16 : decode cX0_takeValue 16 = .ok (.ldc 197, 2) := by decide +kernel
theorem dX0_takeValue_18 : decode cX0_takeValue 18 = .ok (.iand, 1) := by decide +kernel
theorem dX0_takeValue_19 : decode cX0_takeValue 19 = .ok (.putfield 150, 3) := by decide +kernel
theorem dX0_takeValue_22 : decode cX0_takeValue 22 = .ok (.goto 14, 3) := by decide +kernel
theorem dX0_takeValue_25 : decode cX0_takeValue 25 = .ok (.aload_n 0, 1) := by decide +kernel
theorem dX0_takeValue_26 : decode cX0_takeValue 26 = .ok (.sipush (-32768), 3) := by decide +kernel
theorem dX0_takeValue_29 : decode cX0_takeValue 29 = .ok (.ldc 197, 2) := by decide +kernel
theorem dX0_takeValue_31 : decode cX0_takeValue 31 = .ok (.ldc 197, 2) := by decide +kernel
theorem dX0_takeValue_33 : decode cX0_takeValue 33 = .ok (.invokevirtual 181, 3) := by decide +kernel
theorem dX0_takeValue_36 : decode cX0_takeValue 36 = .ok (.return_, 1) := by decide +kernel
theorem dX0_placeOfLabel_0 : decode cX0_placeOfLabel 0 = .ok (.aload_n 0, 1) := by decide +kernel
theorem dX0_placeOfLabel_1 : decode cX0_placeOfLabel 1 = .ok (.getfield 51, 3) := by decide +kernel
theorem dX0_placeOfLabel_4 : decode cX0_placeOfLabel 4 = .ok (.ifCond .eq 10, 3) := by decide +kernel
theorem dX0_placeOfLabel_7 : decode cX0_placeOfLabel 7 = .ok (.aload_n 0, 1) := by decide +kernel
theorem dX0_placeOfLabel_8 : decode cX0_placeOfLabel 8 = .ok (.invokevirtual 122, 3) := by decide +kernel
theorem dX0_placeOfLabel_11 : decode cX0_placeOfLabel 11 = .ok (.goto 4, 3) := by decide +kernel
theorem dX0_placeOfLabel_14 : decode cX0_placeOfLabel 14 = .ok (.iconst (-1), 1) := by decide +kernel
theorem dX0_placeOfLabel_15 : decode cX0_placeOfLabel 15 = .ok (.istore_n 1, 1) := by decide +kernel
theorem dX0_placeOfLabel_16 : decode cX0_placeOfLabel 16 = .ok (.iload_n 1, 1) := by decide +kernel
theorem dX0_placeOfLabel_17 : decode cX0_placeOfLabel 17 = .ok (.ifCond .lt 20, 3) := by decide +kernel
theorem dX0_placeOfLabel_20 : decode cX0_placeOfLabel 20 = .ok (.iload_n 1, 1) := by decide +kernel
theorem dX0_placeOfLabel_21 : decode cX0_placeOfLabel 21 = .ok (.sipush 200, 3) := by decide +kernel
theorem dX0_placeOfLabel_24 : decode cX0_placeOfLabel 24 = .ok (.if_icmp .ge 13, 3) := by decide +kernel
theorem dX0_placeOfLabel_27 : decode cX0_placeOfLabel 27 = .ok (.aload_n 0, 1) := by decide +kernel
theorem dX0_placeOfLabel_28 : decode cX0_placeOfLabel 28 = .ok (.getfield 21, 3) := by decide +kernel
theorem dX0_placeOfLabel_31 : decode cX0_placeOfLabel 31 = .ok (.getfield 133, 3) := by decide +kernel
theorem dX0_placeOfLabel_34 : decode cX0_placeOfLabel 34 = .ok (.iload_n 1, 1) := by decide +kernel
theorem dX0_placeOfLabel_35 : decode cX0_placeOfLabel 35 = .ok (.iaload, 1) := by decide +kernel
theorem dX0_placeOfLabel_36 : decode cX0_placeOfLabel 36 = .ok (.ireturn, 1) := by decide +kernel
theorem dX0_placeOfLabel_37 : decode cX0_placeOfLabel 37 = .ok (.aload_n 0, 1) := by decide +kernel
theorem dX0_placeOfLabel_38 : decode cX0_placeOfLabel 38 = .ok (.getfield 51, 3) := by decide +kernel
theorem dX0_placeOfLabel_41 : decode cX0_placeOfLabel 41 = .ok (.ifCond .eq 15, 3) := by decide +kernel
theorem dX0_placeOfLabel_44 : decode cX0_placeOfLabel 44 = .ok (.aload_n 0, 1) := by decide +kernel
theorem dX0_placeOfLabel_45 : decode cX0_placeOfLabel 45 = .ok (.iconst 5, 1) := by decide +kernel
theorem dX0_placeOfLabel_46 : decode cX0_placeOfLabel 46 = .ok (.aload_n 0, 1) := by decide +kernel
theorem dX0_placeOfLabel_47 : decode cX0_placeOfLabel 47 = .ok (.getfield 41, 3) := by decide +kernel
theorem dX0_placeOfLabel_50 : decode cX0_placeOfLabel 50 = .ok (.getfield 119, 3) := by decide +kernel
theorem dX0_placeOfLabel_53 : decode cX0_placeOfLabel 53 = .ok (.invokevirtual 97, 3) := by decide +kernel
theorem dX0_placeOfLabel_56 : decode cX0_placeOfLabel 56 = .ok (.iconst 0, 1) := by decide +kernel
theorem dX0_placeOfLabel_57 : decode cX0_placeOfLabel 57 = .ok (.ireturn, 1) := by decide +kernel
theorem dX0_takeBlock_0 : decode cX0_takeBlock 0 = .ok (.aload_n 0, 1) := by decide +kernel
theorem dX0_takeBlock_1 : decode cX0_takeBlock 1 = .ok (.iconst 1, 1) := by decide +kernel
theorem dX0_takeBlock_2 : decode cX0_takeBlock 2 = .ok (.sipush 4096, 3) := by decide +kernel
theorem dX0_takeBlock_5 : decode cX0_takeBlock 5 = .ok (.iconst 0, 1) := by decide +kernel
theorem dX0_takeBlock_6 : decode cX0_takeBlock 6 = .ok (.invokevirtual 181, 3) := by decide +kernel
theorem dX0_takeBlock_9 : decode cX0_takeBlock 9 = .ok (.aload_n 0, 1) := by decide +kernel
theorem dX0_takeBlock_10 : decode cX0_takeBlock 10 = .ok (.getfield 45, 3) := by decide +kernel
theorem dX0_takeBlock_13 : decode cX0_takeBlock 13 = .ok (.ifCond .ne 26, 3) := by decide +kernel
theorem dX0_takeBlock_16 : decode cX0_takeBlock 16 = .ok (.aload_n 0, 1) := by decide +kernel
theorem dX0_takeBlock_17 : decode cX0_takeBlock 17 = .ok (.getfield 21, 3) := by decide +kernel
theorem dX0_takeBlock_20 : decode cX0_takeBlock 20 = .ok (.aload_n 0, 1) := by decide +kernel
theorem dX0_takeBlock_21 : decode cX0_takeBlock 21 = .ok (.getfield 41, 3) := by decide +kernel
theorem dX0_takeBlock_24 : decode cX0_takeBlock 24 = .ok (.getfield 198, 3) := by decide +kernel
theorem dX0_takeBlock_27 : decode cX0_takeBlock 27 = .ok (.invokevirtual 143, 3) := by decide +kernel
theorem dX0_takeBlock_30 : decode cX0_takeBlock 30 = .ok (.ifCond .ne 9, 3) := by decide +kernel
theorem dX0_takeBlock_33 : decode cX0_takeBlock 33 = .ok (.aload_n 0, 1) := by decide +kernel
theorem dX0_takeBlock_34 : decode cX0_takeBlock 34 = .ok (.iconst 4, 1) := by decide +kernel
theorem dX0_takeBlock_35 : decode cX0_takeBlock 35 = .ok (.iload_n 1, 1) := by decide +kernel
theorem dX0_takeBlock_36 : decode cX0_takeBlock 36 = .ok (.invokevirtual 97, 3) := by decide +kernel
theorem dX0_takeBlock_39 : decode cX0_takeBlock 39 = .ok (.iconst 0, 1) := by decide +kernel
theorem dX0_takeBlock_40 : decode cX0_takeBlock 40 = .ok (.istore_n 2, 1) := by decide +kernel
theorem dX0_takeBlock_41 : decode cX0_takeBlock 41 = .ok (.aload_n 0, 1) := by decide +kernel
theorem dX0_takeBlock_42 : decode cX0_takeBlock 42 = .ok (.getfield 45, 3) := by decide +kernel
theorem dX0_takeBlock_45 : decode cX0_takeBlock 45 = .ok (.ifCond .ne 28, 3) := by decide +kernel
theorem dX0_takeBlock_48 : decode cX0_takeBlock 48 = .ok (.iload_n 2, 1) := by decide +kernel
theorem dX0_takeBlock_49 : decode cX0_takeBlock 49 = .ok (.aload_n 0, 1) := by decide +kernel
theorem dX0_takeBlock_50 : decode cX0_takeBlock 50 = .ok (.getfield 41, 3) := by decide +kernel
theorem dX0_takeBlock_53 : decode cX0_takeBlock 53 = .ok (.getfield 198, 3) := by decide +kernel
theorem dX0_takeBlock_56 : decode cX0_takeBlock 56 = .ok (.if_icmp .ge 17, 3) := by decide +kernel
theorem dX0_takeBlock_59 : decode cX0_takeBlock 59 = .ok (.aload_n 0, 1) := by decide +kernel
theorem dX0_takeBlock_60 : decode cX0_takeBlock 60 = .ok (.getfield 21, 3) := by decide +kernel
theorem dX0_takeBlock_63 : decode cX0_takeBlock 63 = .ok (.iconst 0, 1) := by decide +kernel
theorem dX0_takeBlock_64 : decode cX0_takeBlock 64 = .ok (.invokevirtual 169, 3) := by decide +kernel
theorem dX0_takeBlock_67 : decode cX0_takeBlock 67 = .ok (.iinc 2 1, 3) := by decide +kernel
theorem dX0_takeBlock_70 : decode cX0_takeBlock 70 = .ok (.goto (-29), 3) := by decide +kernel
theorem dX0_takeBlock_73 : decode cX0_takeBlock 73 = .ok (.return_, 1) := by decide +kernel
theorem dX0_takeText_0 : decode cX0_takeText 0 = .ok (.aload_n 0, 1) := by decide +kernel
theorem dX0_takeText_1 : decode cX0_takeText 1 = .ok (.getfield 41, 3) := by decide +kernel
theorem dX0_takeText_4 : decode cX0_takeText 4 = .ok (.getfield 104, 3) := by decide +kernel
theorem dX0_takeText_7 : decode cX0_takeText 7 = .ok (.iconst 5, 1) := by decide +kernel
theorem dX0_takeText_8 : decode cX0_takeText 8 = .ok (.if_icmp .eq 16, 3) := by decide +kernel
theorem dX0_takeText_11 : decode cX0_takeText 11 = .ok (.aload_n 0, 1) := by decide +kernel
theorem dX0_takeText_12 : decode cX0_takeText 12 = .ok (.iconst 1, 1) := by decide +kernel
theorem dX0_takeText_13 : decode cX0_takeText 13 = .ok (.aload_n 0, 1) := by decide +kernel
theorem dX0_takeText_14 : decode cX0_takeText 14 = .ok (.getfield 41, 3) := by decide +kernel
theorem dX0_takeText_17 : decode cX0_takeText 17 = .ok (.getfield 119, 3) := by decide +kernel
theorem dX0_takeText_20 : decode cX0_takeText 20 = .ok (.invokevirtual 97, 3) := by decide +kernel
theorem dX0_takeText_23 : decode cX0_takeText 23 = .ok (.return_, 1) := by decide +kernel
theorem dX0_takeText_24 : decode cX0_takeText 24 = .ok (.aload_n 0, 1) := by decide +kernel
theorem dX0_takeText_25 : decode cX0_takeText 25 = .ok (.getfield 21, 3) := by decide +kernel
theorem dX0_takeText_28 : decode cX0_takeText 28 = .ok (.aload_n 0, 1) := by decide +kernel
theorem dX0_takeText_29 : decode cX0_takeText 29 = .ok (.getfield 41, 3) := by decide +kernel
theorem dX0_takeText_32 : decode cX0_takeText 32 = .ok (.getfield 198, 3) := by decide +kernel
theorem dX0_takeText_35 : decode cX0_takeText 35 = .ok (.iconst 1, 1) := by decide +kernel
theorem dX0_takeText_36 : decode cX0_takeText 36 = .ok (.iadd, 1) := by decide +kernel
theorem dX0_takeText_37 : decode cX0_takeText 37 = .ok (.invokevirtual 143, 3) := by decide +kernel
theorem dX0_takeText_40 : decode cX0_takeText 40 = .ok (.ifCond .ne 9, 3) := by decide +kernel
theorem dX0_takeText_43 : decode cX0_takeText 43 = .ok (.aload_n 0, 1) := by decide +kernel
theorem dX0_takeText_44 : decode cX0_takeText 44 = .ok (.iconst 4, 1) := by decide +kernel
theorem dX0_takeText_45 : decode cX0_takeText 45 = .ok (.iload_n 1, 1) := by decide +kernel
theorem dX0_takeText_46 : decode cX0_takeText 46 = .ok (.invokevirtual 97, 3) := by decide +kernel
theorem dX0_takeText_49 : decode cX0_takeText 49 = .ok (.aload_n 0, 1) := by decide +kernel
theorem dX0_takeText_50 : decode cX0_takeText 50 = .ok (.getfield 41, 3) := by decide +kernel
theorem dX0_takeText_53 : decode cX0_takeText 53 = .ok (.getfield 119, 3) := by decide +kernel
theorem dX0_takeText_56 : decode cX0_takeText 56 = .ok (.iconst 1, 1) := by decide +kernel
theorem dX0_takeText_57 : decode cX0_takeText 57 = .ok (.iadd, 1) := by decide +kernel
theorem dX0_takeText_58 : decode cX0_takeText 58 = .ok (.istore_n 2, 1) := by decide +kernel
theorem dX0_takeText_59 : decode cX0_takeText 59 = .ok (.iconst 0, 1) := by decide +kernel
theorem dX0_takeText_60 : decode cX0_takeText 60 = .ok (.istore_n 3, 1) := by decide +kernel
theorem dX0_takeText_61 : decode cX0_takeText 61 = .ok (.iload_n 3, 1) := by decide +kernel
theorem dX0_takeText_62 : decode cX0_takeText 62 = .ok (.aload_n 0, 1) := by decide +kernel
theorem dX0_takeText_63 : decode cX0_takeText 63 = .ok (.getfield 41, 3) := by decide +kernel
theorem dX0_takeText_66 : decode cX0_takeText 66 = .ok (.getfield 198, 3) := by decide +kernel
theorem dX0_takeText_69 : decode cX0_takeText 69 = .ok (.if_icmp .ge 54, 3) := by decide +kernel
theorem dX0_takeText_72 : decode cX0_takeText 72 = .ok (.aload_n 0, 1) := by decide +kernel
theorem dX0_takeText_73 : decode cX0_takeText 73 = .ok (.getfield 32, 3) := by decide +kernel
theorem dX0_takeText_76 : decode cX0_takeText 76 = .ok (.iload_n 2, 1) := by decide +kernel
theorem dX0_takeText_77 : decode cX0_takeText 77 = .ok (.invokevirtual 204, 3) := by decide +kernel
theorem dX0_takeText_80 : decode cX0_takeText 80 = .ok (.istore 4, 2) := by decide +kernel
theorem dX0_takeText_82 : decode cX0_takeText 82 = .ok (.iload 4, 2) := by decide +kernel
theorem dX0_takeText_84 : decode cX0_takeText 84 = .ok (.bipush 92, 2) := by decide +kernel
theorem dX0_takeText_86 : decode cX0_takeText 86 = .ok (.if_icmp .ne 19, 3) := by decide +kernel
theorem dX0_takeText_89 : decode cX0_takeText 89 = .ok (.iinc 2 1, 3) := by decide +kernel
theorem dX0_takeText_92 : decode cX0_takeText 92 = .ok (.aload_n 0, 1) := by decide +kernel
theorem dX0_takeText_93 : decode cX0_takeText 93 = .ok (.getfield 32, 3) := by decide +kernel
theorem dX0_takeText_96 : decode cX0_takeText 96 = .ok (.iload_n 2, 1) := by decide +kernel
theorem dX0_takeText_97 : decode cX0_takeText 97 = .ok (.invokevirtual 204, 3) := by decide +kernel
theorem dX0_takeText_100 : decode cX0_takeText 100 = .ok (.invokestatic 208, 3) := by decide +kernel
theorem dX0_takeText_103 : decode cX0_takeText 103 = .ok (.istore 4, 2) := by decide +kernel
theorem dX0_takeText_105 : decode cX0_takeText 105 = .ok (.aload_n 0, 1) := by decide +kernel
theorem dX0_takeText_106 : decode cX0_takeText 106 = .ok (.getfield 21, 3) := by decide +kernel
theorem dX0_takeText_109 : decode cX0_takeText 109 = .ok (.iload 4, 2) := by decide +kernel
theorem dX0_takeText_111 : decode cX0_takeText 111 = .ok (.invokevirtual 169, 3) := by decide +kernel
theorem dX0_takeText_114 : decode cX0_takeText 114 = .ok (.iinc 2 1, 3) := by decide +kernel
theorem dX0_takeText_117 : decode cX0_takeText 117 = .ok (.iinc 3 1, 3) := by decide +kernel
theorem dX0_takeText_120 : decode cX0_takeText 120 = .ok (.goto (-59), 3) := by decide +kernel
theorem dX0_takeText_123 : decode cX0_takeText 123 = .ok (.aload_n 0, 1) := by decide +kernel
theorem dX0_takeText_124 : decode cX0_takeText 124 = .ok (.getfield 21, 3) := by decide +kernel
theorem dX0_takeText_127 : decode cX0_takeText 127 = .ok (.iconst 0, 1) := by decide +kernel
theorem dX0_takeText_128 : decode cX0_takeText 128 = .ok (.invokevirtual 169, 3) := by decide +kernel
theorem dX0_takeText_131 : decode cX0_takeText 131 = .ok (.return_, 1) := by decide +kernel
theorem dX1_init_0 : decode cX1_init 0 = .ok (.aload_n 0, 1) := by decide +kernel
theorem dX1_init_1 : decode cX1_init 1 = .ok (.invokespecial 3, 3) := by decide +kernel
theorem dX1_init_4 : decode cX1_init 4 = .ok (.aload_n 0, 1) := by decide +kernel
theorem dX1_init_5 : decode cX1_init 5 = .ok (.iload_n 1, 1) := by decide +kernel
theorem dX1_init_6 : decode cX1_init 6 = .ok (.ifCond .le 7, 3) := by decide +kernel
theorem dX1_init_9 : decode cX1_init 9 = .ok (.iload_n 1, 1) := by decide +kernel
theorem dX1_init_10 : decode cX1_init 10 = .ok (.goto 4, 3) := by decide +kernel
theorem dX1_init_13 : decode cX1_init 13 = .ok (.iconst 0, 1) := by decide +kernel
theorem dX1_init_14 : decode cX1_init 14 = .ok (.newarray .byte, 2) := by decide +kernel
theorem dX1_init_16 : decode cX1_init 16 = .ok (.putfield 9, 3) := by decide +kernel
theorem dX1_init_19 : decode cX1_init 19 = .ok (.return_, 1) := by decide +kernel
theorem dX1_hasRoom_0 : decode cX1_hasRoom 0 = .ok (.aload_n 0, 1) := by decide +kernel
theorem dX1_hasRoom_1 : decode cX1_hasRoom 1 = .ok (.getfield 15, 3) := by decide +kernel
theorem dX1_hasRoom_4 : decode cX1_hasRoom 4 = .ok (.iload_n 1, 1) := by decide +kernel
theorem dX1_hasRoom_5 : decode cX1_hasRoom 5 = .ok (.iadd, 1) := by decide +kernel
theorem dX1_hasRoom_6 : decode cX1_hasRoom 6 = .ok (.aload_n 0, 1) := by decide +kernel
theorem dX1_hasRoom_7 : decode cX1_hasRoom 7 = .ok (.getfield 9, 3) := by decide +kernel
theorem dX1_hasRoom_10 : decode cX1_hasRoom 10 = .ok (.arraylength, 1) := by decide +kernel
theorem dX1_hasRoom_11 : decode cX1_hasRoom 11 = .ok (.if_icmp .gt 7, 3) := by decide +kernel
theorem dX1_hasRoom_14 : decode cX1_hasRoom 14 = .ok (.iconst 1, 1) := by decide +kernel
theorem dX1_hasRoom_15 : decode cX1_hasRoom 15 = .ok (.goto 4, 3) := by decide +kernel
theorem dX1_hasRoom_18 : decode cX1_hasRoom 18 = .ok (.iconst 0, 1) := by decide +kernel
theorem dX1_hasRoom_19 : decode cX1_hasRoom 19 = .ok (.ireturn, 1) := by decide +kernel
theorem dX1_add_0 : decode cX1_add 0 = .ok (.aload_n 0, 1) := by decide +kernel
theorem dX1_add_1 : decode cX1_add 1 = .ok (.getfield 15, 3) := by decide +kernel
theorem dX1_add_4 : decode cX1_add 4 = .ok (.aload_n 0, 1) := by decide +kernel
theorem dX1_add_5 : decode cX1_add 5 = .ok (.getfield 9, 3) := by decide +kernel
theorem dX1_add_8 : decode cX1_add 8 = .ok (.arraylength, 1) := by decide +kernel
theorem dX1_add_9 : decode cX1_add 9 = .ok (.if_icmp .ge 24, 3) := by decide +kernel
theorem dX1_add_12 : decode cX1_add 12 = .ok (.aload_n 0, 1) := by decide +kernel
theorem dX1_add_13 : decode cX1_add 13 = .ok (.getfield 9, 3) := by decide +kernel
theorem dX1_add_16 : decode cX1_add 16 = .ok (.aload_n 0, 1) := by decide +kernel
theorem dX1_add_17 : decode cX1_add 17 = .ok (.getfield 15, 3) := by decide +kernel
theorem dX1_add_20 : decode cX1_add 20 = .ok (.iload_n 1, 1) := by decide +kernel
theorem dX1_add_21 : decode cX1_add 21 = .ok (.i2b, 1) := by decide +kernel
theorem dX1_add_22 : decode cX1_add 22 = .ok (.bastore, 1) := by decide +kernel
theorem dX1_add_23 : decode cX1_add 23 = .ok (.aload_n 0, 1) := by decide +kernel
theorem dX1_add_24 : decode cX1_add 24 = .ok (.dup, 1) := by decide +kernel
theorem dX1_add_25 : decode cX1_add 25 = .ok (.getfield 15, 3) := by decide +kernel
theorem dX1_add_28 : decode cX1_add 28 = .ok (.iconst 1, 1) := by decide +kernel
theorem dX1_add_29 : decode cX1_add 29 = .ok (.iadd, 1) := by decide +kernel
theorem dX1_add_30 : decode cX1_add 30 = .ok (.putfield 15, 3) := by decide +kernel
theorem dX1_add_33 : decode cX1_add 33 = .ok (.return_, 1) := by decide +kernel
theorem dX1_addFour_0 : decode cX1_addFour 0 = .ok (.aload_n 0, 1) := by decide +kernel
theorem dX1_addFour_1 : decode cX1_addFour 1 = .ok (.iload_n 1, 1) := by decide +kernel
theorem dX1_addFour_2 : decode cX1_addFour 2 = .ok (.bipush 24, 2) := by decide +kernel
theorem dX1_addFour_4 : decode cX1_addFour 4 = .ok (.iushr, 1) := by decide +kernel
theorem dX1_addFour_5 : decode cX1_addFour 5 = .ok (.invokevirtual 19, 3) := by decide +kernel
theorem dX1_addFour_8 : decode cX1_addFour 8 = .ok (.aload_n 0, 1) := by decide +kernel
theorem dX1_addFour_9 : decode cX1_addFour 9 = .ok (.iload_n 1, 1) := by decide +kernel
theorem dX1_addFour_10 : decode cX1_addFour 10 = .ok (.bipush 16, 2) := by decide +kernel
theorem dX1_addFour_12 : decode cX1_addFour 12 = .ok (.iushr, 1) := by decide +kernel
theorem dX1_addFour_13 : decode cX1_addFour 13 = .ok (.invokevirtual 19, 3) := by decide +kernel
theorem dX1_addFour_16 : decode cX1_addFour 16 = .ok (.aload_n 0, 1) := by decide +kernel
theorem dX1_addFour_17 : decode cX1_addFour 17 = .ok (.iload_n 1, 1) := by decide +kernel
theorem dX1_addFour_18 : decode cX1_addFour 18 = .ok (.bipush 8, 2) := by decide +kernel
theorem dX1_addFour_20 : decode cX1_addFour 20 = .ok (.iushr, 1) := by decide +kernel
theorem dX1_addFour_21 : decode cX1_addFour 21 = .ok (.invokevirtual 19, 3) := by decide +kernel
theorem dX1_addFour_24 : decode cX1_addFour 24 = .ok (.aload_n 0, 1) := by decide +kernel
theorem dX1_addFour_25 : decode cX1_addFour 25 = .ok (.iload_n 1, 1) := by decide +kernel
theorem dX1_addFour_26 : decode cX1_addFour 26 = .ok (.invokevirtual 19, 3) := by decide +kernel
theorem dX1_addFour_29 : decode cX1_addFour 29 = .ok (.return_, 1) := by decide +kernel
theorem dX1_addText_0 : decode cX1_addText 0 = .ok (.iconst 0, 1) := by decide +kernel
theorem dX1_addText_1 : decode cX1_addText 1 = .ok (.istore_n 2, 1) := by decide +kernel
theorem dX1_addText_2 : decode cX1_addText 2 = .ok (.iload_n 2, 1) := by decide +kernel
theorem dX1_addText_3 : decode cX1_addText 3 = .ok (.aload_n 1, 1) := by decide +kernel
theorem dX1_addText_4 : decode cX1_addText 4 = .ok (.invokevirtual 23, 3) := by decide +kernel
theorem dX1_addText_7 : decode cX1_addText 7 = .ok (.if_icmp .ge 18, 3) := by decide +kernel
theorem dX1_addText_10 : decode cX1_addText 10 = .ok (.aload_n 0, 1) := by decide +kernel
theorem dX1_addText_11 : decode cX1_addText 11 = .ok (.aload_n 1, 1) := by decide +kernel
theorem dX1_addText_12 : decode cX1_addText 12 = .ok (.iload_n 2, 1) := by decide +kernel
theorem dX1_addText_13 : decode cX1_addText 13 = .ok (.invokevirtual 28, 3) := by decide +kernel
theorem dX1_addText_16 : decode cX1_addText 16 = .ok (.invokevirtual 19, 3) := by decide +kernel
theorem dX1_addText_19 : decode cX1_addText 19 = .ok (.iinc 2 1, 3) := by decide +kernel
theorem dX1_addText_22 : decode cX1_addText 22 = .ok (.goto (-20), 3) := by decide +kernel
theorem dX1_addText_25 : decode cX1_addText 25 = .ok (.return_, 1) := by decide +kernel
theorem dX1_cut_0 : decode cX1_cut 0 = .ok (.iload_n 1, 1) := by decide +kernel
theorem dX1_cut_1 : decode cX1_cut 1 = .ok (.ifCond .lt 16, 3) := by decide +kernel
theorem dX1_cut_4 : decode cX1_cut 4 = .ok (.iload_n 1, 1) := by decide +kernel
theorem dX1_cut_5 : decode cX1_cut 5 = .ok (.aload_n 0, 1) := by decide +kernel
theorem dX1_cut_6 : decode cX1_cut 6 = .ok (.getfield 15, 3) := by decide +kernel
theorem dX1_cut_9 : decode cX1_cut 9 = .ok (.if_icmp .gt 8, 3) := by decide +kernel
theorem dX1_cut_12 : decode cX1_cut 12 = .ok (.aload_n 0, 1) := by decide +kernel
theorem dX1_cut_13 : decode cX1_cut 13 = .ok (.iload_n 1, 1) := by decide +kernel
theorem dX1_cut_14 : decode cX1_cut 14 = .ok (.putfield 15, 3) := by decide +kernel
theorem dX1_cut_17 : decode cX1_cut 17 = .ok (.return_, 1) := by decide +kernel
theorem dX1_byteAt_0 : decode cX1_byteAt 0 = .ok (.iload_n 1, 1) := by decide +kernel
theorem dX1_byteAt_1 : decode cX1_byteAt 1 = .ok (.ifCond .lt 24, 3) := by decide +kernel
theorem dX1_byteAt_4 : decode cX1_byteAt 4 = .ok (.iload_n 1, 1) := by decide +kernel
theorem dX1_byteAt_5 : decode cX1_byteAt 5 = .ok (.aload_n 0, 1) := by decide +kernel
theorem dX1_byteAt_6 : decode cX1_byteAt 6 = .ok (.getfield 15, 3) := by decide +kernel
theorem dX1_byteAt_9 : decode cX1_byteAt 9 = .ok (.if_icmp .ge 16, 3) := by decide +kernel
theorem dX1_byteAt_12 : decode cX1_byteAt 12 = .ok (.aload_n 0, 1) := by decide +kernel
theorem dX1_byteAt_13 : decode cX1_byteAt 13 = .ok (.getfield 9, 3) := by decide +kernel
theorem dX1_byteAt_16 : decode cX1_byteAt 16 = .ok (.iload_n 1, 1) := by decide +kernel
theorem dX1_byteAt_17 : decode cX1_byteAt 17 = .ok (.baload, 1) := by decide +kernel
theorem dX1_byteAt_18 : decode cX1_byteAt 18 = .ok (.sipush 255, 3) := by decide +kernel
theorem dX1_byteAt_21 : decode cX1_byteAt 21 = .ok (.iand, 1) := by decide +kernel
theorem dX1_byteAt_22 : decode cX1_byteAt 22 = .ok (.goto 4, 3) := by decide +kernel
theorem dX1_byteAt_25 : decode cX1_byteAt 25 = .ok (.iconst (-1), 1) := by decide +kernel
theorem dX1_byteAt_26 : decode cX1_byteAt 26 = .ok (.ireturn, 1) := by decide +kernel
theorem dX2_init_0 : decode cX2_init 0 = .ok (.aload_n 0, 1) := by decide +kernel
theorem dX2_init_1 : decode cX2_init 1 = .ok (.invokespecial 3, 3) := by decide +kernel
theorem dX2_init_4 : decode cX2_init 4 = .ok (.aload_n 0, 1) := by decide +kernel
theorem dX2_init_5 : decode cX2_init 5 = .ok (.bipush 100, 2) := by decide +kernel
theorem dX2_init_7 : decode cX2_init 7 = .ok (.newarray .int, 2) := by decide +kernel
theorem dX2_init_9 : decode cX2_init 9 = .ok (.putfield 9, 3) := by decide +kernel
theorem dX2_init_12 : decode cX2_init 12 = .ok (.return_, 1) := by decide +kernel
theorem dX2_clear_0 : decode cX2_clear 0 = .ok (.aload_n 0, 1) := by decide +kernel
theorem dX2_clear_1 : decode cX2_clear 1 = .ok (.iconst 0, 1) := by decide +kernel
theorem dX2_clear_2 : decode cX2_clear 2 = .ok (.putfield 15, 3) := by decide +kernel
theorem dX2_clear_5 : decode cX2_clear 5 = .ok (.aload_n 0, 1) := by decide +kernel
theorem dX2_clear_6 : decode cX2_clear 6 = .ok (.iconst 0, 1) := by decide +kernel
theorem dX2_clear_7 : decode cX2_clear 7 = .ok (.putfield 19, 3) := by decide +kernel
theorem dX2_clear_10 : decode cX2_clear 10 = .ok (.aload_n 0, 1) := by decide +kernel
theorem dX2_clear_11 : decode cX2_clear 11 = .ok (.iconst 0, 1) := by decide +kernel
theorem dX2_clear_12 : decode cX2_clear 12 = .ok (.putfield 22, 3) := by decide +kernel
theorem dX2_clear_15 : decode cX2_clear 15 = .ok (.aload_n 0, 1) := by decide +kernel
theorem dX2_clear_16 : decode cX2_clear 16 = .ok (.iconst 0, 1) := by decide +kernel
theorem dX2_clear_17 : decode cX2_clear 17 = .ok (.putfield 25, 3) := by decide +kernel
theorem dX2_clear_20 : decode cX2_clear 20 = .ok (.return_, 1) := by decide +kernel
theorem dX2_add_0 : decode cX2_add 0 = .ok (.aload_n 0, 1) := by decide +kernel
theorem dX2_add_1 : decode cX2_add 1 = .ok (.getfield 19, 3) := by decide +kernel
theorem dX2_add_4 : decode cX2_add 4 = .ok (.bipush 100, 2) := by decide +kernel
theorem dX2_add_6 : decode cX2_add 6 = .ok (.if_icmp .lt 5, 3) := by decide +kernel
theorem dX2_add_9 : decode cX2_add 9 = .ok (.iconst 0, 1) := by decide +kernel
theorem dX2_add_10 : decode cX2_add 10 = .ok (.ireturn, 1) := by decide +kernel
theorem dX2_add_11 : decode cX2_add 11 = .ok (.aload_n 0, 1) := by decide +kernel
theorem dX2_add_12 : decode cX2_add 12 = .ok (.getfield 9, 3) := by decide +kernel
theorem dX2_add_15 : decode cX2_add 15 = .ok (.aload_n 0, 1) := by decide +kernel
theorem dX2_add_16 : decode cX2_add 16 = .ok (.getfield 15, 3) := by decide +kernel
theorem dX2_add_19 : decode cX2_add 19 = .ok (.aload_n 0, 1) := by decide +kernel
theorem dX2_add_20 : decode cX2_add 20 = .ok (.getfield 19, 3) := by decide +kernel
theorem dX2_add_23 : decode cX2_add 23 = .ok (.iadd, 1) := by decide +kernel
theorem dX2_add_24 : decode cX2_add 24 = .ok (.bipush 100, 2) := by decide +kernel
theorem dX2_add_26 : decode cX2_add 26 = .ok (.irem, 1) := by decide +kernel
theorem dX2_add_27 : decode cX2_add 27 = .ok (.iload_n 1, 1) := by decide +kernel
theorem dX2_add_28 : decode cX2_add 28 = .ok (.sipush 255, 3) := by decide +kernel
theorem dX2_add_31 : decode cX2_add 31 = .ok (.iand, 1) := by decide +kernel
theorem dX2_add_32 : decode cX2_add 32 = .ok (.iastore, 1) := by decide +kernel
theorem dX2_add_33 : decode cX2_add 33 = .ok (.aload_n 0, 1) := by decide +kernel
theorem dX2_add_34 : decode cX2_add 34 = .ok (.dup, 1) := by decide +kernel
theorem dX2_add_35 : decode cX2_add 35 = .ok (.getfield 19, 3) := by decide +kernel
theorem dX2_add_38 : decode cX2_add 38 = .ok (.iconst 1, 1) := by decide +kernel
theorem dX2_add_39 : decode cX2_add 39 = .ok (.iadd, 1) := by decide +kernel
theorem dX2_add_40 : decode cX2_add 40 = .ok (.putfield 19, 3) := by decide +kernel
theorem dX2_add_43 : decode cX2_add 43 = .ok (.iconst 1, 1) := by decide +kernel
theorem dX2_add_44 : decode cX2_add 44 = .ok (.ireturn, 1) := by decide +kernel
theorem dX2_status_0 : decode cX2_status 0 = .ok (.aload_n 0, 1) := by decide +kernel
theorem dX2_status_1 : decode cX2_status 1 = .ok (.getfield 19, 3) := by decide +kernel
theorem dX2_status_4 : decode cX2_status 4 = .ok (.ifCond .le 13, 3) := by decide +kernel
theorem dX2_status_7 : decode cX2_status 7 = .ok (.ldc 28, 2) := by decide +kernel
theorem dX2_status_9 : decode cX2_status 9 = .ok (.aload_n 0, 1) := by decide +kernel
theorem dX2_status_10 : decode cX2_status 10 = .ok (.getfield 25, 3) := by decide +kernel
theorem dX2_status_13 : decode cX2_status 13 = .ok (.ior, 1) := by decide +kernel
theorem dX2_status_14 : decode cX2_status 14 = .ok (.goto 7, 3) := by decide +kernel
theorem dX2_status_17 : decode cX2_status 17 = .ok (.aload_n 0, 1) := by decide +kernel
theorem dX2_status_18 : decode cX2_status 18 = .ok (.getfield 25, 3) := by decide +kernel
theorem dX2_status_21 : decode cX2_status 21 = .ok (.ireturn, 1) := by decide +kernel
theorem dX2_data_0 : decode cX2_data 0 = .ok (.aload_n 0, 1) := by decide +kernel
theorem dX2_data_1 : decode cX2_data 1 = .ok (.getfield 19, 3) := by decide +kernel
theorem dX2_data_4 : decode cX2_data 4 = .ok (.ifCond .le 15, 3) := by decide +kernel
theorem dX2_data_7 : decode cX2_data 7 = .ok (.aload_n 0, 1) := by decide +kernel
theorem dX2_data_8 : decode cX2_data 8 = .ok (.getfield 9, 3) := by decide +kernel
theorem dX2_data_11 : decode cX2_data 11 = .ok (.aload_n 0, 1) := by decide +kernel
theorem dX2_data_12 : decode cX2_data 12 = .ok (.getfield 15, 3) := by decide +kernel
theorem dX2_data_15 : decode cX2_data 15 = .ok (.iaload, 1) := by decide +kernel
theorem dX2_data_16 : decode cX2_data 16 = .ok (.goto 7, 3) := by decide +kernel
theorem dX2_data_19 : decode cX2_data 19 = .ok (.aload_n 0, 1) := by decide +kernel
theorem dX2_data_20 : decode cX2_data 20 = .ok (.getfield 22, 3) := by decide +kernel
theorem dX2_data_23 : decode cX2_data 23 = .ok (.ireturn, 1) := by decide +kernel
theorem dX2_drop_0 : decode cX2_drop 0 = .ok (.aload_n 0, 1) := by decide +kernel
theorem dX2_drop_1 : decode cX2_drop 1 = .ok (.getfield 19, 3) := by decide +kernel
theorem dX2_drop_4 : decode cX2_drop 4 = .ok (.ifCond .le 26, 3) := by decide +kernel
theorem dX2_drop_7 : decode cX2_drop 7 = .ok (.aload_n 0, 1) := by decide +kernel
theorem dX2_drop_8 : decode cX2_drop 8 = .ok (.aload_n 0, 1) := by decide +kernel
theorem dX2_drop_9 : decode cX2_drop 9 = .ok (.getfield 15, 3) := by decide +kernel
theorem dX2_drop_12 : decode cX2_drop 12 = .ok (.iconst 1, 1) := by decide +kernel
theorem dX2_drop_13 : decode cX2_drop 13 = .ok (.iadd, 1) := by decide +kernel
theorem dX2_drop_14 : decode cX2_drop 14 = .ok (.bipush 100, 2) := by decide +kernel
theorem dX2_drop_16 : decode cX2_drop 16 = .ok (.irem, 1) := by decide +kernel
theorem dX2_drop_17 : decode cX2_drop 17 = .ok (.putfield 15, 3) := by decide +kernel
theorem dX2_drop_20 : decode cX2_drop 20 = .ok (.aload_n 0, 1) := by decide +kernel
theorem dX2_drop_21 : decode cX2_drop 21 = .ok (.dup, 1) := by decide +kernel
theorem dX2_drop_22 : decode cX2_drop 22 = .ok (.getfield 19, 3) := by decide +kernel
theorem dX2_drop_25 : decode cX2_drop 25 = .ok (.iconst 1, 1) := by decide +kernel
theorem dX2_drop_26 : decode cX2_drop 26 = .ok (.isub, 1) := by decide +kernel
theorem dX2_drop_27 : decode cX2_drop 27 = .ok (.putfield 19, 3) := by decide +kernel
theorem dX2_drop_30 : decode cX2_drop 30 = .ok (.return_, 1) := by decide +kernel
theorem dX3_init_0 : decode cX3_init 0 = .ok (.aload_n 0, 1) := by decide +kernel
theorem dX3_init_1 : decode cX3_init 1 = .ok (.invokespecial 3, 3) := by decide +kernel
theorem dX3_init_4 : decode cX3_init 4 = .ok (.aload_n 0, 1) := by decide +kernel
theorem dX3_init_5 : decode cX3_init 5 = .ok (.bipush 12, 2) := by decide +kernel
theorem dX3_init_7 : decode cX3_init 7 = .ok (.newarray .int, 2) := by decide +kernel
theorem dX3_init_9 : decode cX3_init 9 = .ok (.putfield 9, 3) := by decide +kernel
theorem dX3_init_12 : decode cX3_init 12 = .ok (.aload_n 0, 1) := by decide +kernel
theorem dX3_init_13 : decode cX3_init 13 = .ok (.iconst 4, 1) := by decide +kernel
theorem dX3_init_14 : decode cX3_init 14 = .ok (.newarray .int, 2) := by decide +kernel
theorem dX3_init_16 : decode cX3_init 16 = .ok (.putfield 15, 3) := by decide +kernel
theorem dX3_init_19 : decode cX3_init 19 = .ok (.aload_n 0, 1) := by decide +kernel
theorem dX3_init_20 : decode cX3_init 20 = .ok (.new 18, 3) := by decide +kernel
theorem dX3_init_23 : decode cX3_init 23 = .ok (.dup, 1) := by decide +kernel
theorem dX3_init_24 : decode cX3_init 24 = .ok (.invokespecial 20, 3) := by decide +kernel
theorem dX3_init_27 : decode cX3_init 27 = .ok (.putfield 21, 3) := by decide +kernel
theorem dX3_init_30 : decode cX3_init 30 = .ok (.aload_n 0, 1) := by decide +kernel
theorem dX3_init_31 : decode cX3_init 31 = .ok (.new 25, 3) := by decide +kernel
theorem dX3_init_34 : decode cX3_init 34 = .ok (.dup, 1) := by decide +kernel
theorem dX3_init_35 : decode cX3_init 35 = .ok (.invokespecial 27, 3) := by decide +kernel
theorem dX3_init_38 : decode cX3_init 38 = .ok (.putfield 28, 3) := by decide +kernel
theorem dX3_init_41 : decode cX3_init 41 = .ok (.aload_n 0, 1) := by decide +kernel
theorem dX3_init_42 : decode cX3_init 42 = .ok (.new 32, 3) := by decide +kernel
theorem dX3_init_45 : decode cX3_init 45 = .ok (.dup, 1) := by decide +kernel
theorem dX3_init_46 : decode cX3_init 46 = .ok (.invokespecial 34, 3) := by decide +kernel
theorem dX3_init_49 : decode cX3_init 49 = .ok (.putfield 35, 3) := by decide +kernel
theorem dX3_init_52 : decode cX3_init 52 = .ok (.aload_n 0, 1) := by decide +kernel
theorem dX3_init_53 : decode cX3_init 53 = .ok (.iconst 0, 1) := by decide +kernel
theorem dX3_init_54 : decode cX3_init 54 = .ok (.putfield 39, 3) := by decide +kernel
theorem dX3_init_57 : decode cX3_init 57 = .ok (.aload_n 0, 1) := by decide +kernel
theorem dX3_init_58 : decode cX3_init 58 = .ok (.iconst (-1), 1) := by decide +kernel
theorem dX3_init_59 : decode cX3_init 59 = .ok (.putfield 43, 3) := by decide +kernel
theorem dX3_init_62 : decode cX3_init 62 = .ok (.aload_n 0, 1) := by decide +kernel
theorem dX3_init_63 : decode cX3_init 63 = .ok (.invokevirtual 46, 3) := by decide +kernel
theorem dX3_init_66 : decode cX3_init 66 = .ok (.return_, 1) := by decide +kernel
theorem dX3_clearRegisters_0 : decode cX3_clearRegisters 0 = .ok (.iconst 0, 1) := by decide +kernel
theorem dX3_clearRegisters_1 : decode cX3_clearRegisters 1 = .ok (.istore_n 1, 1) := by decide +kernel
theorem dX3_clearRegisters_2 : decode cX3_clearRegisters 2 = .ok (.iload_n 1, 1) := by decide +kernel
theorem dX3_clearRegisters_3 : decode cX3_clearRegisters 3 = .ok (.bipush 8, 2) := by decide +kernel
theorem dX3_clearRegisters_5 : decode cX3_clearRegisters 5 = .ok (.if_icmp .ge 16, 3) := by decide +kernel
theorem dX3_clearRegisters_8 : decode cX3_clearRegisters 8 = .ok (.aload_n 0, 1) := by decide +kernel
theorem dX3_clearRegisters_9 : decode cX3_clearRegisters 9 = .ok (.getfield 9, 3) := by decide +kernel
theorem dX3_clearRegisters_12 : decode cX3_clearRegisters 12 = .ok (.iload_n 1, 1) := by decide +kernel
theorem dX3_clearRegisters_13 : decode cX3_clearRegisters 13 = .ok (.iconst 0, 1) := by decide +kernel
theorem dX3_clearRegisters_14 : decode cX3_clearRegisters 14 = .ok (.iastore, 1) := by decide +kernel
theorem dX3_clearRegisters_15 : decode cX3_clearRegisters 15 = .ok (.iinc 1 1, 3) := by decide +kernel
theorem dX3_clearRegisters_18 : decode cX3_clearRegisters 18 = .ok (.goto (-16), 3) := by decide +kernel
theorem dX3_clearRegisters_21 : decode cX3_clearRegisters 21 = .ok (.aload_n 0, 1) := by decide +kernel
theorem dX3_clearRegisters_22 : decode cX3_clearRegisters 22 = .ok (.getfield 9, 3) := by decide +kernel
theorem dX3_clearRegisters_25 : decode cX3_clearRegisters 25 = .ok (.bipush 8, 2) := by decide +kernel
theorem dX3_clearRegisters_27 : decode cX3_clearRegisters 27 = .ok (.sipush 12288, 3) := by decide +kernel
theorem dX3_clearRegisters_30 : decode cX3_clearRegisters 30 = .ok (.iastore, 1) := by decide +kernel
theorem dX3_clearRegisters_31 : decode cX3_clearRegisters 31 = .ok (.aload_n 0, 1) := by decide +kernel
theorem dX3_clearRegisters_32 : decode cX3_clearRegisters 32 = .ok (.getfield 9, 3) := by decide +kernel
theorem dX3_clearRegisters_35 : decode cX3_clearRegisters 35 = .ok (.bipush 9, 2) := by decide +kernel
theorem dX3_clearRegisters_37 : decode cX3_clearRegisters 37 = .ok (.ldc 49, 2) := by decide +kernel
theorem dX3_clearRegisters_39 : decode cX3_clearRegisters 39 = .ok (.iastore, 1) := by decide +kernel
theorem dX3_clearRegisters_40 : decode cX3_clearRegisters 40 = .ok (.aload_n 0, 1) := by decide +kernel
theorem dX3_clearRegisters_41 : decode cX3_clearRegisters 41 = .ok (.getfield 9, 3) := by decide +kernel
theorem dX3_clearRegisters_44 : decode cX3_clearRegisters 44 = .ok (.bipush 10, 2) := by decide +kernel
theorem dX3_clearRegisters_46 : decode cX3_clearRegisters 46 = .ok (.sipush 12288, 3) := by decide +kernel
theorem dX3_clearRegisters_49 : decode cX3_clearRegisters 49 = .ok (.iastore, 1) := by decide +kernel
theorem dX3_clearRegisters_50 : decode cX3_clearRegisters 50 = .ok (.aload_n 0, 1) := by decide +kernel
theorem dX3_clearRegisters_51 : decode cX3_clearRegisters 51 = .ok (.getfield 9, 3) := by decide +kernel
theorem dX3_clearRegisters_54 : decode cX3_clearRegisters 54 = .ok (.bipush 11, 2) := by decide +kernel
theorem dX3_clearRegisters_56 : decode cX3_clearRegisters 56 = .ok (.ldc 50, 2) := by decide +kernel
theorem dX3_clearRegisters_58 : decode cX3_clearRegisters 58 = .ok (.iastore, 1) := by decide +kernel
theorem dX3_clearRegisters_59 : decode cX3_clearRegisters 59 = .ok (.return_, 1) := by decide +kernel
theorem dX3_restart_0 : decode cX3_restart 0 = .ok (.iconst 0, 1) := by decide +kernel
theorem dX3_restart_1 : decode cX3_restart 1 = .ok (.istore_n 2, 1) := by decide +kernel
theorem dX3_restart_2 : decode cX3_restart 2 = .ok (.iload_n 2, 1) := by decide +kernel
theorem dX3_restart_3 : decode cX3_restart 3 = .ok (.aload_n 1, 1) := by decide +kernel
theorem dX3_restart_4 : decode cX3_restart 4 = .ok (.getfield 51, 3) := by decide +kernel
theorem dX3_restart_7 : decode cX3_restart 7 = .ok (.if_icmp .ge 28, 3) := by decide +kernel
theorem dX3_restart_10 : decode cX3_restart 10 = .ok (.aload_n 0, 1) := by decide +kernel
theorem dX3_restart_11 : decode cX3_restart 11 = .ok (.getfield 21, 3) := by decide +kernel
theorem dX3_restart_14 : decode cX3_restart 14 = .ok (.aload_n 1, 1) := by decide +kernel
theorem dX3_restart_15 : decode cX3_restart 15 = .ok (.getfield 56, 3) := by decide +kernel
theorem dX3_restart_18 : decode cX3_restart 18 = .ok (.iload_n 2, 1) := by decide +kernel
theorem dX3_restart_19 : decode cX3_restart 19 = .ok (.iadd, 1) := by decide +kernel
theorem dX3_restart_20 : decode cX3_restart 20 = .ok (.aload_n 1, 1) := by decide +kernel
theorem dX3_restart_21 : decode cX3_restart 21 = .ok (.getfield 59, 3) := by decide +kernel
theorem dX3_restart_24 : decode cX3_restart 24 = .ok (.iload_n 2, 1) := by decide +kernel
theorem dX3_restart_25 : decode cX3_restart 25 = .ok (.iaload, 1) := by decide +kernel
theorem dX3_restart_26 : decode cX3_restart 26 = .ok (.invokevirtual 62, 3) := by decide +kernel
theorem dX3_restart_29 : decode cX3_restart 29 = .ok (.iinc 2 1, 3) := by decide +kernel
theorem dX3_restart_32 : decode cX3_restart 32 = .ok (.goto (-30), 3) := by decide +kernel
theorem dX3_restart_35 : decode cX3_restart 35 = .ok (.aload_n 0, 1) := by decide +kernel
theorem dX3_restart_36 : decode cX3_restart 36 = .ok (.invokevirtual 46, 3) := by decide +kernel
theorem dX3_restart_39 : decode cX3_restart 39 = .ok (.aload_n 0, 1) := by decide +kernel
theorem dX3_restart_40 : decode cX3_restart 40 = .ok (.getfield 9, 3) := by decide +kernel
theorem dX3_restart_43 : decode cX3_restart 43 = .ok (.bipush 8, 2) := by decide +kernel
theorem dX3_restart_45 : decode cX3_restart 45 = .ok (.aload_n 1, 1) := by decide +kernel
theorem dX3_restart_46 : decode cX3_restart 46 = .ok (.getfield 56, 3) := by decide +kernel
theorem dX3_restart_49 : decode cX3_restart 49 = .ok (.ldc 66, 2) := by decide +kernel
theorem dX3_restart_51 : decode cX3_restart 51 = .ok (.iand, 1) := by decide +kernel
theorem dX3_restart_52 : decode cX3_restart 52 = .ok (.iastore, 1) := by decide +kernel
theorem dX3_restart_53 : decode cX3_restart 53 = .ok (.aload_n 0, 1) := by decide +kernel
theorem dX3_restart_54 : decode cX3_restart 54 = .ok (.getfield 28, 3) := by decide +kernel
theorem dX3_restart_57 : decode cX3_restart 57 = .ok (.invokevirtual 67, 3) := by decide +kernel
theorem dX3_restart_60 : decode cX3_restart 60 = .ok (.aload_n 0, 1) := by decide +kernel
theorem dX3_restart_61 : decode cX3_restart 61 = .ok (.iconst 0, 1) := by decide +kernel
theorem dX3_restart_62 : decode cX3_restart 62 = .ok (.putfield 39, 3) := by decide +kernel
theorem dX3_restart_65 : decode cX3_restart 65 = .ok (.return_, 1) := by decide +kernel
theorem dX3_typed_0 : decode cX3_typed 0 = .ok (.aload_n 0, 1) := by decide +kernel
theorem dX3_typed_1 : decode cX3_typed 1 = .ok (.getfield 28, 3) := by decide +kernel
theorem dX3_typed_4 : decode cX3_typed 4 = .ok (.iload_n 1, 1) := by decide +kernel
theorem dX3_typed_5 : decode cX3_typed 5 = .ok (.invokevirtual 70, 3) := by decide +kernel
theorem dX3_typed_8 : decode cX3_typed 8 = .ok (.ifCond .ne 5, 3) := by decide +kernel
theorem dX3_typed_11 : decode cX3_typed 11 = .ok (.iconst 0, 1) := by decide +kernel
theorem dX3_typed_12 : decode cX3_typed 12 = .ok (.ireturn, 1) := by decide +kernel
theorem dX3_typed_13 : decode cX3_typed 13 = .ok (.aload_n 0, 1) := by decide +kernel
theorem dX3_typed_14 : decode cX3_typed 14 = .ok (.getfield 39, 3) := by decide +kernel
theorem dX3_typed_17 : decode cX3_typed 17 = .ok (.iconst 2, 1) := by decide +kernel
theorem dX3_typed_18 : decode cX3_typed 18 = .ok (.if_icmp .ne 8, 3) := by decide +kernel
theorem dX3_typed_21 : decode cX3_typed 21 = .ok (.aload_n 0, 1) := by decide +kernel
theorem dX3_typed_22 : decode cX3_typed 22 = .ok (.iconst 0, 1) := by decide +kernel
theorem dX3_typed_23 : decode cX3_typed 23 = .ok (.putfield 39, 3) := by decide +kernel
theorem dX3_typed_26 : decode cX3_typed 26 = .ok (.iconst 1, 1) := by decide +kernel
theorem dX3_typed_27 : decode cX3_typed 27 = .ok (.ireturn, 1) := by decide +kernel
theorem dX3_go_0 : decode cX3_go 0 = .ok (.iconst 0, 1) := by decide +kernel
theorem dX3_go_1 : decode cX3_go 1 = .ok (.istore_n 2, 1) := by decide +kernel
theorem dX3_go_2 : decode cX3_go 2 = .ok (.iconst 0, 1) := by decide +kernel
theorem dX3_go_3 : decode cX3_go 3 = .ok (.istore_n 3, 1) := by decide +kernel
theorem dX3_go_4 : decode cX3_go 4 = .ok (.iload_n 2, 1) := by decide +kernel
theorem dX3_go_5 : decode cX3_go 5 = .ok (.iload_n 1, 1) := by decide +kernel
theorem dX3_go_6 : decode cX3_go 6 = .ok (.if_icmp .ge 44, 3) := by decide +kernel
theorem dX3_go_9 : decode cX3_go 9 = .ok (.aload_n 0, 1) := by decide +kernel
theorem dX3_go_10 : decode cX3_go 10 = .ok (.getfield 39, 3) := by decide +kernel
theorem dX3_go_13 : decode cX3_go 13 = .ok (.iconst 1, 1) := by decide +kernel
theorem dX3_go_14 : decode cX3_go 14 = .ok (.if_icmp .eq 36, 3) := by decide +kernel
theorem dX3_go_17 : decode cX3_go 17 = .ok (.iload_n 3, 1) := by decide +kernel
theorem dX3_go_18 : decode cX3_go 18 = .ok (.ifCond .ne 32, 3) := by decide +kernel
theorem dX3_go_21 : decode cX3_go 21 = .ok (.aload_n 0, 1) := by decide +kernel
theorem dX3_go_22 : decode cX3_go 22 = .ok (.iconst 0, 1) := by decide +kernel
theorem dX3_go_23 : decode cX3_go 23 = .ok (.putfield 39, 3) := by decide +kernel
theorem dX3_go_26 : decode cX3_go 26 = .ok (.aload_n 0, 1) := by decide +kernel
theorem dX3_go_27 : decode cX3_go 27 = .ok (.invokevirtual 74, 3) := by decide +kernel
theorem dX3_go_30 : decode cX3_go 30 = .ok (.iinc 2 1, 3) := by decide +kernel
theorem dX3_go_33 : decode cX3_go 33 = .ok (.aload_n 0, 1) := by decide +kernel
theorem dX3_go_34 : decode cX3_go 34 = .ok (.getfield 39, 3) := by decide +kernel
theorem dX3_go_37 : decode cX3_go 37 = .ok (.iconst 2, 1) := by decide +kernel
theorem dX3_go_38 : decode cX3_go 38 = .ok (.if_icmp .ne 7, 3) := by decide +kernel
theorem dX3_go_41 : decode cX3_go 41 = .ok (.iconst 1, 1) := by decide +kernel
theorem dX3_go_42 : decode cX3_go 42 = .ok (.goto 4, 3) := by decide +kernel
theorem dX3_go_45 : decode cX3_go 45 = .ok (.iconst 0, 1) := by decide +kernel
theorem dX3_go_46 : decode cX3_go 46 = .ok (.istore_n 3, 1) := by decide +kernel
theorem dX3_go_47 : decode cX3_go 47 = .ok (.goto (-43), 3) := by decide +kernel
theorem dX3_go_50 : decode cX3_go 50 = .ok (.aload_n 0, 1) := by decide +kernel
theorem dX3_go_51 : decode cX3_go 51 = .ok (.getfield 15, 3) := by decide +kernel
theorem dX3_go_54 : decode cX3_go 54 = .ok (.iconst 0, 1) := by decide +kernel
theorem dX3_go_55 : decode cX3_go 55 = .ok (.dup2, 1) := by decide +kernel
theorem dX3_go_56 : decode cX3_go 56 = .ok (.iaload, 1) := by decide +kernel
theorem dX3_go_57 : decode cX3_go 57 = .ok (.iload_n 2, 1) := by decide +kernel
theorem dX3_go_58 : decode cX3_go 58 = .ok (.iadd, 1) := by decide +kernel
theorem dX3_go_59 : decode cX3_go 59 = .ok (.iastore, 1) := by decide +kernel
theorem dX3_go_60 : decode cX3_go 60 = .ok (.iload_n 2, 1) := by decide +kernel
theorem dX3_go_61 : decode cX3_go 61 = .ok (.ireturn, 1) := by decide +kernel
theorem dX3_step_0 : decode cX3_step 0 = .ok (.aload_n 0, 1) := by decide +kernel
theorem dX3_step_1 : decode cX3_step 1 = .ok (.getfield 28, 3) := by decide +kernel
theorem dX3_step_4 : decode cX3_step 4 = .ok (.invokevirtual 77, 3) := by decide +kernel
theorem dX3_step_7 : decode cX3_step 7 = .ok (.ldc 81, 2) := by decide +kernel
theorem dX3_step_9 : decode cX3_step 9 = .ok (.if_icmp .ne 60, 3) := by decide +kernel
theorem dX3_step_12 : decode cX3_step 12 = .ok (.aload_n 0, 1) := by decide +kernel
theorem dX3_step_13 : decode cX3_step 13 = .ok (.getfield 9, 3) := by decide +kernel
theorem dX3_step_16 : decode cX3_step 16 = .ok (.bipush 9, 2) := by decide +kernel
theorem dX3_step_18 : decode cX3_step 18 = .ok (.iaload, 1) := by decide +kernel
theorem dX3_step_19 : decode cX3_step 19 = .ok (.sipush 1792, 3) := by decide +kernel
theorem dX3_step_22 : decode cX3_step 22 = .ok (.iand, 1) := by decide +kernel
theorem dX3_step_23 : decode cX3_step 23 = .ok (.sipush 1024, 3) := by decide +kernel
theorem dX3_step_26 : decode cX3_step 26 = .ok (.if_icmp .ge 43, 3) := by decide +kernel
theorem dX3_step_29 : decode cX3_step 29 = .ok (.aload_n 0, 1) := by decide +kernel
theorem dX3_step_30 : decode cX3_step 30 = .ok (.getfield 15, 3) := by decide +kernel
theorem dX3_step_33 : decode cX3_step 33 = .ok (.iconst 1, 1) := by decide +kernel
theorem dX3_step_34 : decode cX3_step 34 = .ok (.dup2, 1) := by decide +kernel
theorem dX3_step_35 : decode cX3_step 35 = .ok (.iaload, 1) := by decide +kernel
theorem dX3_step_36 : decode cX3_step 36 = .ok (.iconst 1, 1) := by decide +kernel
theorem dX3_step_37 : decode cX3_step 37 = .ok (.iadd, 1) := by decide +kernel
theorem dX3_step_38 : decode cX3_step 38 = .ok (.iastore, 1) := by decide +kernel
theorem dX3_step_39 : decode cX3_step 39 = .ok (.aload_n 0, 1) := by decide +kernel
theorem dX3_step_40 : decode cX3_step 40 = .ok (.sipush 384, 3) := by decide +kernel
theorem dX3_step_43 : decode cX3_step 43 = .ok (.invokevirtual 82, 3) := by decide +kernel
theorem dX3_step_46 : decode cX3_step 46 = .ok (.aload_n 0, 1) := by decide +kernel
theorem dX3_step_47 : decode cX3_step 47 = .ok (.getfield 9, 3) := by decide +kernel
theorem dX3_step_50 : decode cX3_step 50 = .ok (.bipush 9, 2) := by decide +kernel
theorem dX3_step_52 : decode cX3_step 52 = .ok (.aload_n 0, 1) := by decide +kernel
theorem dX3_step_53 : decode cX3_step 53 = .ok (.getfield 9, 3) := by decide +kernel
theorem dX3_step_56 : decode cX3_step 56 = .ok (.bipush 9, 2) := by decide +kernel
theorem dX3_step_58 : decode cX3_step 58 = .ok (.iaload, 1) := by decide +kernel
theorem dX3_step_59 : decode cX3_step 59 = .ok (.sipush (-1793), 3) := by decide +kernel
theorem dX3_step_62 : decode cX3_step 62 = .ok (.iand, 1) := by decide +kernel
theorem dX3_step_63 : decode cX3_step 63 = .ok (.sipush 1024, 3) := by decide +kernel
theorem dX3_step_66 : decode cX3_step 66 = .ok (.ior, 1) := by decide +kernel
theorem dX3_step_67 : decode cX3_step 67 = .ok (.iastore, 1) := by decide +kernel
theorem dX3_step_68 : decode cX3_step 68 = .ok (.return_, 1) := by decide +kernel
theorem dX3_step_69 : decode cX3_step 69 = .ok (.aload_n 0, 1) := by decide +kernel
theorem dX3_step_70 : decode cX3_step 70 = .ok (.iconst (-1), 1) := by decide +kernel
theorem dX3_step_71 : decode cX3_step 71 = .ok (.putfield 43, 3) := by decide +kernel
theorem dX3_step_74 : decode cX3_step 74 = .ok (.aload_n 0, 1) := by decide +kernel
theorem dX3_step_75 : decode cX3_step 75 = .ok (.aload_n 0, 1) := by decide +kernel
theorem dX3_step_76 : decode cX3_step 76 = .ok (.getfield 9, 3) := by decide +kernel
theorem dX3_step_79 : decode cX3_step 79 = .ok (.bipush 8, 2) := by decide +kernel
theorem dX3_step_81 : decode cX3_step 81 = .ok (.iaload, 1) := by decide +kernel
theorem dX3_step_82 : decode cX3_step 82 = .ok (.invokevirtual 86, 3) := by decide +kernel
theorem dX3_step_85 : decode cX3_step 85 = .ok (.istore_n 1, 1) := by decide +kernel
theorem dX3_step_86 : decode cX3_step 86 = .ok (.aload_n 0, 1) := by decide +kernel
theorem dX3_step_87 : decode cX3_step 87 = .ok (.getfield 9, 3) := by decide +kernel
theorem dX3_step_90 : decode cX3_step 90 = .ok (.bipush 8, 2) := by decide +kernel
theorem dX3_step_92 : decode cX3_step 92 = .ok (.aload_n 0, 1) := by decide +kernel
theorem dX3_step_93 : decode cX3_step 93 = .ok (.getfield 9, 3) := by decide +kernel
theorem dX3_step_96 : decode cX3_step 96 = .ok (.bipush 8, 2) := by decide +kernel
theorem dX3_step_98 : decode cX3_step 98 = .ok (.iaload, 1) := by decide +kernel
theorem dX3_step_99 : decode cX3_step 99 = .ok (.iconst 1, 1) := by decide +kernel
theorem dX3_step_100 : decode cX3_step 100 = .ok (.iadd, 1) := by decide +kernel
theorem dX3_step_101 : decode cX3_step 101 = .ok (.ldc 66, 2) := by decide +kernel
theorem dX3_step_103 : decode cX3_step 103 = .ok (.iand, 1) := by decide +kernel
theorem dX3_step_104 : decode cX3_step 104 = .ok (.iastore, 1) := by decide +kernel
theorem dX3_step_105 : decode cX3_step 105 = .ok (.aload_n 0, 1) := by decide +kernel
theorem dX3_step_106 : decode cX3_step 106 = .ok (.getfield 43, 3) := by decide +kernel
theorem dX3_step_109 : decode cX3_step 109 = .ok (.iconst (-1), 1) := by decide +kernel
theorem dX3_step_110 : decode cX3_step 110 = .ok (.if_icmp .ne 8, 3) := by decide +kernel
theorem dX3_step_113 : decode cX3_step 113 = .ok (.aload_n 0, 1) := by decide +kernel
theorem dX3_step_114 : decode cX3_step 114 = .ok (.iload_n 1, 1) := by decide +kernel
theorem dX3_step_115 : decode cX3_step 115 = .ok (.invokevirtual 90, 3) := by decide +kernel
theorem dX3_step_118 : decode cX3_step 118 = .ok (.aload_n 0, 1) := by decide +kernel
theorem dX3_step_119 : decode cX3_step 119 = .ok (.getfield 43, 3) := by decide +kernel
theorem dX3_step_122 : decode cX3_step 122 = .ok (.iconst (-1), 1) := by decide +kernel
theorem dX3_step_123 : decode cX3_step 123 = .ok (.if_icmp .eq 25, 3) := by decide +kernel
theorem dX3_step_126 : decode cX3_step 126 = .ok (.aload_n 0, 1) := by decide +kernel
theorem dX3_step_127 : decode cX3_step 127 = .ok (.getfield 15, 3) := by decide +kernel
theorem dX3_step_130 : decode cX3_step 130 = .ok (.iconst 2, 1) := by decide +kernel
theorem dX3_step_131 : decode cX3_step 131 = .ok (.dup2, 1) := by decide +kernel
theorem dX3_step_132 : decode cX3_step 132 = .ok (.iaload, 1) := by decide +kernel
theorem dX3_step_133 : decode cX3_step 133 = .ok (.iconst 1, 1) := by decide +kernel
theorem dX3_step_134 : decode cX3_step 134 = .ok (.iadd, 1) := by decide +kernel
theorem dX3_step_135 : decode cX3_step 135 = .ok (.iastore, 1) := by decide +kernel
theorem dX3_step_136 : decode cX3_step 136 = .ok (.aload_n 0, 1) := by decide +kernel
theorem dX3_step_137 : decode cX3_step 137 = .ok (.sipush 256, 3) := by decide +kernel
theorem dX3_step_140 : decode cX3_step 140 = .ok (.aload_n 0, 1) := by decide +kernel
theorem dX3_step_141 : decode cX3_step 141 = .ok (.getfield 43, 3) := by decide +kernel
theorem dX3_step_144 : decode cX3_step 144 = .ok (.iadd, 1) := by decide +kernel
theorem dX3_step_145 : decode cX3_step 145 = .ok (.invokevirtual 82, 3) := by decide +kernel
theorem dX3_step_148 : decode cX3_step 148 = .ok (.return_, 1) := by decide +kernel
theorem dX3_perform_0 : decode cX3_perform 0 = .ok (.iload_n 1, 1) := by decide +kernel
theorem dX3_perform_1 : decode cX3_perform 1 = .ok (.bipush 9, 2) := by decide +kernel
theorem dX3_perform_3 : decode cX3_perform 3 = .ok (.ishr, 1) := by decide +kernel
theorem dX3_perform_4 : decode cX3_perform 4 = .ok (.bipush 7, 2) := by decide +kernel
theorem dX3_perform_6 : decode cX3_perform 6 = .ok (.iand, 1) := by decide +kernel
theorem dX3_perform_7 : decode cX3_perform 7 = .ok (.istore_n 2, 1) := by decide +kernel
theorem dX3_perform_8 : decode cX3_perform 8 = .ok (.aload_n 0, 1) := by decide +kernel
theorem dX3_perform_9 : decode cX3_perform 9 = .ok (.getfield 9, 3) := by decide +kernel
theorem dX3_perform_12 : decode cX3_perform 12 = .ok (.iload_n 1, 1) := by decide +kernel
theorem dX3_perform_13 : decode cX3_perform 13 = .ok (.bipush 6, 2) := by decide +kernel
theorem dX3_perform_15 : decode cX3_perform 15 = .ok (.ishr, 1) := by decide +kernel
theorem dX3_perform_16 : decode cX3_perform 16 = .ok (.bipush 7, 2) := by decide +kernel
theorem dX3_perform_18 : decode cX3_perform 18 = .ok (.iand, 1) := by decide +kernel
theorem dX3_perform_19 : decode cX3_perform 19 = .ok (.iaload, 1) := by decide +kernel
theorem dX3_perform_20 : decode cX3_perform 20 = .ok (.istore_n 3, 1) := by decide +kernel
theorem dX3_perform_21 : decode cX3_perform 21 = .ok (.aload_n 0, 1) := by decide +kernel
theorem dX3_perform_22 : decode cX3_perform 22 = .ok (.getfield 9, 3) := by decide +kernel
theorem dX3_perform_25 : decode cX3_perform 25 = .ok (.bipush 8, 2) := by decide +kernel
theorem dX3_perform_27 : decode cX3_perform 27 = .ok (.iaload, 1) := by decide +kernel
theorem dX3_perform_28 : decode cX3_perform 28 = .ok (.iload_n 1, 1) := by decide +kernel
theorem dX3_perform_29 : decode cX3_perform 29 = .ok (.bipush 9, 2) := by decide +kernel
theorem dX3_perform_31 : decode cX3_perform 31 = .ok (.invokestatic 93, 3) := by decide +kernel
theorem dX3_perform_34 : decode cX3_perform 34 = .ok (.iadd, 1) := by decide +kernel
theorem dX3_perform_35 : decode cX3_perform 35 = .ok (.ldc 66, 2) := by decide +kernel
theorem dX3_perform_37 : decode cX3_perform 37 = .ok (.iand, 1) := by decide +kernel
theorem dX3_perform_38 : decode cX3_perform 38 = .ok (.istore 4, 2) := by decide +kernel
theorem dX3_perform_40 : decode cX3_perform 40 = .ok (.iload_n 3, 1) := by decide +kernel
theorem dX3_perform_41 : decode cX3_perform 41 = .ok (.iload_n 1, 1) := by decide +kernel
theorem dX3_perform_42 : decode cX3_perform 42 = .ok (.bipush 6, 2) := by decide +kernel
theorem dX3_perform_44 : decode cX3_perform 44 = .ok (.invokestatic 93, 3) := by decide +kernel
theorem dX3_perform_47 : decode cX3_perform 47 = .ok (.iadd, 1) := by decide +kernel
theorem dX3_perform_48 : decode cX3_perform 48 = .ok (.ldc 66, 2) := by decide +kernel
theorem dX3_perform_50 : decode cX3_perform 50 = .ok (.iand, 1) := by decide +kernel
theorem dX3_perform_51 : decode cX3_perform 51 = .ok (.istore 5, 2) := by decide +kernel
theorem dX3_perform_53 : decode cX3_perform 53 = .ok (.iload_n 1, 1) := by decide +kernel
theorem dX3_perform_54 : decode cX3_perform 54 = .ok (.bipush 12, 2) := by decide +kernel
theorem dX3_perform_56 : decode cX3_perform 56 = .ok (.ishr, 1) := by decide +kernel
theorem dX3_perform_57 : decode cX3_perform 57 = .ok (.tableswitch 269 0 14 #[75, 99, 114, 124, 139, 148, 163, 173, 188, 195, 206, 220, 239, 250, 258], 75) := by decide +kernel
theorem dX3_perform_132 : decode cX3_perform 132 = .ok (.iload_n 2, 1) := by decide +kernel
theorem dX3_perform_133 : decode cX3_perform 133 = .ok (.aload_n 0, 1) := by decide +kernel
theorem dX3_perform_134 : decode cX3_perform 134 = .ok (.getfield 9, 3) := by decide +kernel
theorem dX3_perform_137 : decode cX3_perform 137 = .ok (.bipush 9, 2) := by decide +kernel
theorem dX3_perform_139 : decode cX3_perform 139 = .ok (.iaload, 1) := by decide +kernel
theorem dX3_perform_140 : decode cX3_perform 140 = .ok (.iand, 1) := by decide +kernel
theorem dX3_perform_141 : decode cX3_perform 141 = .ok (.ifCond .eq 194, 3) := by decide +kernel
theorem dX3_perform_144 : decode cX3_perform 144 = .ok (.aload_n 0, 1) := by decide +kernel
theorem dX3_perform_145 : decode cX3_perform 145 = .ok (.getfield 9, 3) := by decide +kernel
theorem dX3_perform_148 : decode cX3_perform 148 = .ok (.bipush 8, 2) := by decide +kernel
theorem dX3_perform_150 : decode cX3_perform 150 = .ok (.iload 4, 2) := by decide +kernel
theorem dX3_perform_152 : decode cX3_perform 152 = .ok (.iastore, 1) := by decide +kernel
theorem dX3_perform_153 : decode cX3_perform 153 = .ok (.goto 182, 3) := by decide +kernel
theorem dX3_perform_156 : decode cX3_perform 156 = .ok (.aload_n 0, 1) := by decide +kernel
theorem dX3_perform_157 : decode cX3_perform 157 = .ok (.iload_n 2, 1) := by decide +kernel
theorem dX3_perform_158 : decode cX3_perform 158 = .ok (.iload_n 3, 1) := by decide +kernel
theorem dX3_perform_159 : decode cX3_perform 159 = .ok (.aload_n 0, 1) := by decide +kernel
theorem dX3_perform_160 : decode cX3_perform 160 = .ok (.iload_n 1, 1) := by decide +kernel
theorem dX3_perform_161 : decode cX3_perform 161 = .ok (.invokevirtual 97, 3) := by decide +kernel
theorem dX3_perform_164 : decode cX3_perform 164 = .ok (.iadd, 1) := by decide +kernel
theorem dX3_perform_165 : decode cX3_perform 165 = .ok (.invokevirtual 100, 3) := by decide +kernel
theorem dX3_perform_168 : decode cX3_perform 168 = .ok (.goto 167, 3) := by decide +kernel
theorem dX3_perform_171 : decode cX3_perform 171 = .ok (.aload_n 0, 1) := by decide +kernel
theorem dX3_perform_172 : decode cX3_perform 172 = .ok (.iload_n 2, 1) := by decide +kernel
theorem dX3_perform_173 : decode cX3_perform 173 = .ok (.iload 4, 2) := by decide +kernel
theorem dX3_perform_175 : decode cX3_perform 175 = .ok (.invokevirtual 103, 3) := by decide +kernel
theorem dX3_perform_178 : decode cX3_perform 178 = .ok (.goto 157, 3) := by decide +kernel
theorem dX3_perform_181 : decode cX3_perform 181 = .ok (.aload_n 0, 1) := by decide +kernel
theorem dX3_perform_182 : decode cX3_perform 182 = .ok (.iload 4, 2) := by decide +kernel
theorem dX3_perform_184 : decode cX3_perform 184 = .ok (.aload_n 0, 1) := by decide +kernel
theorem dX3_perform_185 : decode cX3_perform 185 = .ok (.getfield 9, 3) := by decide +kernel
theorem dX3_perform_188 : decode cX3_perform 188 = .ok (.iload_n 2, 1) := by decide +kernel
theorem dX3_perform_189 : decode cX3_perform 189 = .ok (.iaload, 1) := by decide +kernel
theorem dX3_perform_190 : decode cX3_perform 190 = .ok (.invokevirtual 106, 3) := by decide +kernel
theorem dX3_perform_193 : decode cX3_perform 193 = .ok (.goto 142, 3) := by decide +kernel
theorem dX3_perform_196 : decode cX3_perform 196 = .ok (.aload_n 0, 1) := by decide +kernel
theorem dX3_perform_197 : decode cX3_perform 197 = .ok (.iload_n 1, 1) := by decide +kernel
theorem dX3_perform_198 : decode cX3_perform 198 = .ok (.iload_n 3, 1) := by decide +kernel
theorem dX3_perform_199 : decode cX3_perform 199 = .ok (.invokevirtual 109, 3) := by decide +kernel
theorem dX3_perform_202 : decode cX3_perform 202 = .ok (.goto 133, 3) := by decide +kernel
theorem dX3_perform_205 : decode cX3_perform 205 = .ok (.aload_n 0, 1) := by decide +kernel
theorem dX3_perform_206 : decode cX3_perform 206 = .ok (.iload_n 2, 1) := by decide +kernel
theorem dX3_perform_207 : decode cX3_perform 207 = .ok (.iload_n 3, 1) := by decide +kernel
theorem dX3_perform_208 : decode cX3_perform 208 = .ok (.aload_n 0, 1) := by decide +kernel
theorem dX3_perform_209 : decode cX3_perform 209 = .ok (.iload_n 1, 1) := by decide +kernel
theorem dX3_perform_210 : decode cX3_perform 210 = .ok (.invokevirtual 97, 3) := by decide +kernel
theorem dX3_perform_213 : decode cX3_perform 213 = .ok (.iand, 1) := by decide +kernel
theorem dX3_perform_214 : decode cX3_perform 214 = .ok (.invokevirtual 100, 3) := by decide +kernel
theorem dX3_perform_217 : decode cX3_perform 217 = .ok (.goto 118, 3) := by decide +kernel
theorem dX3_perform_220 : decode cX3_perform 220 = .ok (.aload_n 0, 1) := by decide +kernel
theorem dX3_perform_221 : decode cX3_perform 221 = .ok (.iload_n 2, 1) := by decide +kernel
theorem dX3_perform_222 : decode cX3_perform 222 = .ok (.iload 5, 2) := by decide +kernel
theorem dX3_perform_224 : decode cX3_perform 224 = .ok (.invokevirtual 103, 3) := by decide +kernel
theorem dX3_perform_227 : decode cX3_perform 227 = .ok (.goto 108, 3) := by decide +kernel
theorem dX3_perform_230 : decode cX3_perform 230 = .ok (.aload_n 0, 1) := by decide +kernel
theorem dX3_perform_231 : decode cX3_perform 231 = .ok (.iload 5, 2) := by decide +kernel
theorem dX3_perform_233 : decode cX3_perform 233 = .ok (.aload_n 0, 1) := by decide +kernel
theorem dX3_perform_234 : decode cX3_perform 234 = .ok (.getfield 9, 3) := by decide +kernel
theorem dX3_perform_237 : decode cX3_perform 237 = .ok (.iload_n 2, 1) := by decide +kernel
theorem dX3_perform_238 : decode cX3_perform 238 = .ok (.iaload, 1) := by decide +kernel
theorem dX3_perform_239 : decode cX3_perform 239 = .ok (.invokevirtual 106, 3) := by decide +kernel
theorem dX3_perform_242 : decode cX3_perform 242 = .ok (.goto 93, 3) := by decide +kernel
theorem dX3_perform_245 : decode cX3_perform 245 = .ok (.aload_n 0, 1) := by decide +kernel
theorem dX3_perform_246 : decode cX3_perform 246 = .ok (.invokevirtual 112, 3) := by decide +kernel
theorem dX3_perform_249 : decode cX3_perform 249 = .ok (.goto 86, 3) := by decide +kernel
theorem dX3_perform_252 : decode cX3_perform 252 = .ok (.aload_n 0, 1) := by decide +kernel
theorem dX3_perform_253 : decode cX3_perform 253 = .ok (.iload_n 2, 1) := by decide +kernel
theorem dX3_perform_254 : decode cX3_perform 254 = .ok (.iload_n 3, 1) := by decide +kernel
theorem dX3_perform_255 : decode cX3_perform 255 = .ok (.iconst (-1), 1) := by decide +kernel
theorem dX3_perform_256 : decode cX3_perform 256 = .ok (.ixor, 1) := by decide +kernel
theorem dX3_perform_257 : decode cX3_perform 257 = .ok (.invokevirtual 100, 3) := by decide +kernel
theorem dX3_perform_260 : decode cX3_perform 260 = .ok (.goto 75, 3) := by decide +kernel
theorem dX3_perform_263 : decode cX3_perform 263 = .ok (.aload_n 0, 1) := by decide +kernel
theorem dX3_perform_264 : decode cX3_perform 264 = .ok (.iload_n 2, 1) := by decide +kernel
theorem dX3_perform_265 : decode cX3_perform 265 = .ok (.aload_n 0, 1) := by decide +kernel
theorem dX3_perform_266 : decode cX3_perform 266 = .ok (.iload 4, 2) := by decide +kernel
theorem dX3_perform_268 : decode cX3_perform 268 = .ok (.invokevirtual 86, 3) := by decide +kernel
theorem dX3_perform_271 : decode cX3_perform 271 = .ok (.invokevirtual 103, 3) := by decide +kernel
theorem dX3_perform_274 : decode cX3_perform 274 = .ok (.goto 61, 3) := by decide +kernel
theorem dX3_perform_277 : decode cX3_perform 277 = .ok (.aload_n 0, 1) := by decide +kernel
theorem dX3_perform_278 : decode cX3_perform 278 = .ok (.aload_n 0, 1) := by decide +kernel
theorem dX3_perform_279 : decode cX3_perform 279 = .ok (.iload 4, 2) := by decide +kernel
theorem dX3_perform_281 : decode cX3_perform 281 = .ok (.invokevirtual 86, 3) := by decide +kernel
theorem dX3_perform_284 : decode cX3_perform 284 = .ok (.aload_n 0, 1) := by decide +kernel
theorem dX3_perform_285 : decode cX3_perform 285 = .ok (.getfield 9, 3) := by decide +kernel
theorem dX3_perform_288 : decode cX3_perform 288 = .ok (.iload_n 2, 1) := by decide +kernel
theorem dX3_perform_289 : decode cX3_perform 289 = .ok (.iaload, 1) := by decide +kernel
theorem dX3_perform_290 : decode cX3_perform 290 = .ok (.invokevirtual 106, 3) := by decide +kernel
theorem dX3_perform_293 : decode cX3_perform 293 = .ok (.goto 42, 3) := by decide +kernel
theorem dX3_perform_296 : decode cX3_perform 296 = .ok (.aload_n 0, 1) := by decide +kernel
theorem dX3_perform_297 : decode cX3_perform 297 = .ok (.getfield 9, 3) := by decide +kernel
theorem dX3_perform_300 : decode cX3_perform 300 = .ok (.bipush 8, 2) := by decide +kernel
theorem dX3_perform_302 : decode cX3_perform 302 = .ok (.iload_n 3, 1) := by decide +kernel
theorem dX3_perform_303 : decode cX3_perform 303 = .ok (.iastore, 1) := by decide +kernel
theorem dX3_perform_304 : decode cX3_perform 304 = .ok (.goto 31, 3) := by decide +kernel
theorem dX3_perform_307 : decode cX3_perform 307 = .ok (.aload_n 0, 1) := by decide +kernel
theorem dX3_perform_308 : decode cX3_perform 308 = .ok (.iconst 1, 1) := by decide +kernel
theorem dX3_perform_309 : decode cX3_perform 309 = .ok (.putfield 43, 3) := by decide +kernel
theorem dX3_perform_312 : decode cX3_perform 312 = .ok (.goto 23, 3) := by decide +kernel
theorem dX3_perform_315 : decode cX3_perform 315 = .ok (.aload_n 0, 1) := by decide +kernel
theorem dX3_perform_316 : decode cX3_perform 316 = .ok (.getfield 9, 3) := by decide +kernel
theorem dX3_perform_319 : decode cX3_perform 319 = .ok (.iload_n 2, 1) := by decide +kernel
theorem dX3_perform_320 : decode cX3_perform 320 = .ok (.iload 4, 2) := by decide +kernel
theorem dX3_perform_322 : decode cX3_perform 322 = .ok (.iastore, 1) := by decide +kernel
theorem dX3_perform_323 : decode cX3_perform 323 = .ok (.goto 12, 3) := by decide +kernel
theorem dX3_perform_326 : decode cX3_perform 326 = .ok (.aload_n 0, 1) := by decide +kernel
theorem dX3_perform_327 : decode cX3_perform 327 = .ok (.iload_n 1, 1) := by decide +kernel
theorem dX3_perform_328 : decode cX3_perform 328 = .ok (.sipush 255, 3) := by decide +kernel
theorem dX3_perform_331 : decode cX3_perform 331 = .ok (.iand, 1) := by decide +kernel
theorem dX3_perform_332 : decode cX3_perform 332 = .ok (.invokevirtual 115, 3) := by decide +kernel
theorem dX3_perform_335 : decode cX3_perform 335 = .ok (.return_, 1) := by decide +kernel
theorem dX3_second_0 : decode cX3_second 0 = .ok (.iload_n 1, 1) := by decide +kernel
theorem dX3_second_1 : decode cX3_second 1 = .ok (.bipush 32, 2) := by decide +kernel
theorem dX3_second_3 : decode cX3_second 3 = .ok (.iand, 1) := by decide +kernel
theorem dX3_second_4 : decode cX3_second 4 = .ok (.ifCond .eq 11, 3) := by decide +kernel
theorem dX3_second_7 : decode cX3_second 7 = .ok (.iload_n 1, 1) := by decide +kernel
theorem dX3_second_8 : decode cX3_second 8 = .ok (.iconst 5, 1) := by decide +kernel
theorem dX3_second_9 : decode cX3_second 9 = .ok (.invokestatic 93, 3) := by decide +kernel
theorem dX3_second_12 : decode cX3_second 12 = .ok (.goto 12, 3) := by decide +kernel
theorem dX3_second_15 : decode cX3_second 15 = .ok (.aload_n 0, 1) := by decide +kernel
theorem dX3_second_16 : decode cX3_second 16 = .ok (.getfield 9, 3) := by decide +kernel
theorem dX3_second_19 : decode cX3_second 19 = .ok (.iload_n 1, 1) := by decide +kernel
theorem dX3_second_20 : decode cX3_second 20 = .ok (.bipush 7, 2) := by decide +kernel
theorem dX3_second_22 : decode cX3_second 22 = .ok (.iand, 1) := by decide +kernel
theorem dX3_second_23 : decode cX3_second 23 = .ok (.iaload, 1) := by decide +kernel
theorem dX3_second_24 : decode cX3_second 24 = .ok (.ireturn, 1) := by decide +kernel
theorem dX3_settle_0 : decode cX3_settle 0 = .ok (.iload_n 2, 1) := by decide +kernel
theorem dX3_settle_1 : decode cX3_settle 1 = .ok (.ldc 66, 2) := by decide +kernel
theorem dX3_settle_3 : decode cX3_settle 3 = .ok (.iand, 1) := by decide +kernel
theorem dX3_settle_4 : decode cX3_settle 4 = .ok (.istore_n 3, 1) := by decide +kernel
theorem dX3_settle_5 : decode cX3_settle 5 = .ok (.aload_n 0, 1) := by decide +kernel
theorem dX3_settle_6 : decode cX3_settle 6 = .ok (.getfield 9, 3) := by decide +kernel
theorem dX3_settle_9 : decode cX3_settle 9 = .ok (.iload_n 1, 1) := by decide +kernel
theorem dX3_settle_10 : decode cX3_settle 10 = .ok (.iload_n 3, 1) := by decide +kernel
theorem dX3_settle_11 : decode cX3_settle 11 = .ok (.iastore, 1) := by decide +kernel
theorem dX3_settle_12 : decode cX3_settle 12 = .ok (.iload_n 3, 1) := by decide +kernel
theorem dX3_settle_13 : decode cX3_settle 13 = .ok (.ifCond .ne 7, 3) := by decide +kernel
theorem dX3_settle_16 : decode cX3_settle 16 = .ok (.iconst 2, 1) := by decide +kernel
theorem dX3_settle_17 : decode cX3_settle 17 = .ok (.goto 14, 3) := by decide +kernel
theorem dX3_settle_20 : decode cX3_settle 20 = .ok (.iload_n 3, 1) := by decide +kernel
theorem dX3_settle_21 : decode cX3_settle 21 = .ok (.ldc 118, 2) := by decide +kernel
theorem dX3_settle_23 : decode cX3_settle 23 = .ok (.if_icmp .ge 7, 3) := by decide +kernel
theorem dX3_settle_26 : decode cX3_settle 26 = .ok (.iconst 1, 1) := by decide +kernel
theorem dX3_settle_27 : decode cX3_settle 27 = .ok (.goto 4, 3) := by decide +kernel
theorem dX3_settle_30 : decode cX3_settle 30 = .ok (.iconst 4, 1) := by decide +kernel
theorem dX3_settle_31 : decode cX3_settle 31 = .ok (.istore 4, 2) := by decide +kernel
theorem dX3_settle_33 : decode cX3_settle 33 = .ok (.aload_n 0, 1) := by decide +kernel
theorem dX3_settle_34 : decode cX3_settle 34 = .ok (.getfield 9, 3) := by decide +kernel
theorem dX3_settle_37 : decode cX3_settle 37 = .ok (.bipush 9, 2) := by decide +kernel
theorem dX3_settle_39 : decode cX3_settle 39 = .ok (.aload_n 0, 1) := by decide +kernel
theorem dX3_settle_40 : decode cX3_settle 40 = .ok (.getfield 9, 3) := by decide +kernel
theorem dX3_settle_43 : decode cX3_settle 43 = .ok (.bipush 9, 2) := by decide +kernel
theorem dX3_settle_45 : decode cX3_settle 45 = .ok (.iaload, 1) := by decide +kernel
theorem dX3_settle_46 : decode cX3_settle 46 = .ok (.bipush (-8), 2) := by decide +kernel
theorem dX3_settle_48 : decode cX3_settle 48 = .ok (.iand, 1) := by decide +kernel
theorem dX3_settle_49 : decode cX3_settle 49 = .ok (.iload 4, 2) := by decide +kernel
theorem dX3_settle_51 : decode cX3_settle 51 = .ok (.ior, 1) := by decide +kernel
theorem dX3_settle_52 : decode cX3_settle 52 = .ok (.iastore, 1) := by decide +kernel
theorem dX3_settle_53 : decode cX3_settle 53 = .ok (.return_, 1) := by decide +kernel
theorem dX3_receive_0 : decode cX3_receive 0 = .ok (.aload_n 0, 1) := by decide +kernel
theorem dX3_receive_1 : decode cX3_receive 1 = .ok (.getfield 43, 3) := by decide +kernel
theorem dX3_receive_4 : decode cX3_receive 4 = .ok (.iconst (-1), 1) := by decide +kernel
theorem dX3_receive_5 : decode cX3_receive 5 = .ok (.if_icmp .ne 11, 3) := by decide +kernel
theorem dX3_receive_8 : decode cX3_receive 8 = .ok (.aload_n 0, 1) := by decide +kernel
theorem dX3_receive_9 : decode cX3_receive 9 = .ok (.iload_n 2, 1) := by decide +kernel
theorem dX3_receive_10 : decode cX3_receive 10 = .ok (.invokevirtual 86, 3) := by decide +kernel
theorem dX3_receive_13 : decode cX3_receive 13 = .ok (.goto 4, 3) := by decide +kernel
theorem dX3_receive_16 : decode cX3_receive 16 = .ok (.iconst 0, 1) := by decide +kernel
theorem dX3_receive_17 : decode cX3_receive 17 = .ok (.istore_n 3, 1) := by decide +kernel
theorem dX3_receive_18 : decode cX3_receive 18 = .ok (.aload_n 0, 1) := by decide +kernel
theorem dX3_receive_19 : decode cX3_receive 19 = .ok (.getfield 43, 3) := by decide +kernel
theorem dX3_receive_22 : decode cX3_receive 22 = .ok (.iconst (-1), 1) := by decide +kernel
theorem dX3_receive_23 : decode cX3_receive 23 = .ok (.if_icmp .ne 9, 3) := by decide +kernel
theorem dX3_receive_26 : decode cX3_receive 26 = .ok (.aload_n 0, 1) := by decide +kernel
theorem dX3_receive_27 : decode cX3_receive 27 = .ok (.iload_n 1, 1) := by decide +kernel
theorem dX3_receive_28 : decode cX3_receive 28 = .ok (.iload_n 3, 1) := by decide +kernel
theorem dX3_receive_29 : decode cX3_receive 29 = .ok (.invokevirtual 100, 3) := by decide +kernel
theorem dX3_receive_32 : decode cX3_receive 32 = .ok (.return_, 1) := by decide +kernel
theorem dX3_give_0 : decode cX3_give 0 = .ok (.aload_n 0, 1) := by decide +kernel
theorem dX3_give_1 : decode cX3_give 1 = .ok (.getfield 43, 3) := by decide +kernel
theorem dX3_give_4 : decode cX3_give 4 = .ok (.iconst (-1), 1) := by decide +kernel
theorem dX3_give_5 : decode cX3_give 5 = .ok (.if_icmp .ne 9, 3) := by decide +kernel
theorem dX3_give_8 : decode cX3_give 8 = .ok (.aload_n 0, 1) := by decide +kernel
theorem dX3_give_9 : decode cX3_give 9 = .ok (.iload_n 1, 1) := by decide +kernel
theorem dX3_give_10 : decode cX3_give 10 = .ok (.iload_n 2, 1) := by decide +kernel
theorem dX3_give_11 : decode cX3_give 11 = .ok (.invokevirtual 119, 3) := by decide +kernel
theorem dX3_give_14 : decode cX3_give 14 = .ok (.return_, 1) := by decide +kernel
theorem dX3_callAway_0 : decode cX3_callAway 0 = .ok (.aload_n 0, 1) := by decide +kernel
theorem dX3_callAway_1 : decode cX3_callAway 1 = .ok (.getfield 9, 3) := by decide +kernel
theorem dX3_callAway_4 : decode cX3_callAway 4 = .ok (.bipush 8, 2) := by decide +kernel
theorem dX3_callAway_6 : decode cX3_callAway 6 = .ok (.iaload, 1) := by decide +kernel
theorem dX3_callAway_7 : decode cX3_callAway 7 = .ok (.istore_n 3, 1) := by decide +kernel
theorem dX3_callAway_8 : decode cX3_callAway 8 = .ok (.aload_n 0, 1) := by decide +kernel
theorem dX3_callAway_9 : decode cX3_callAway 9 = .ok (.getfield 9, 3) := by decide +kernel
theorem dX3_callAway_12 : decode cX3_callAway 12 = .ok (.bipush 8, 2) := by decide +kernel
theorem dX3_callAway_14 : decode cX3_callAway 14 = .ok (.iload_n 1, 1) := by decide +kernel
theorem dX3_callAway_15 : decode cX3_callAway 15 = .ok (.sipush 2048, 3) := by decide +kernel
theorem dX3_callAway_18 : decode cX3_callAway 18 = .ok (.iand, 1) := by decide +kernel
theorem dX3_callAway_19 : decode cX3_callAway 19 = .ok (.ifCond .eq 17, 3) := by decide +kernel
theorem dX3_callAway_22 : decode cX3_callAway 22 = .ok (.iload_n 3, 1) := by decide +kernel
theorem dX3_callAway_23 : decode cX3_callAway 23 = .ok (.iload_n 1, 1) := by decide +kernel
theorem dX3_callAway_24 : decode cX3_callAway 24 = .ok (.bipush 11, 2) := by decide +kernel
theorem dX3_callAway_26 : decode cX3_callAway 26 = .ok (.invokestatic 93, 3) := by decide +kernel
theorem dX3_callAway_29 : decode cX3_callAway 29 = .ok (.iadd, 1) := by decide +kernel
theorem dX3_callAway_30 : decode cX3_callAway 30 = .ok (.ldc 66, 2) := by decide +kernel
theorem dX3_callAway_32 : decode cX3_callAway 32 = .ok (.iand, 1) := by decide +kernel
theorem dX3_callAway_33 : decode cX3_callAway 33 = .ok (.goto 4, 3) := by decide +kernel
theorem dX3_callAway_36 : decode cX3_callAway 36 = .ok (.iload_n 2, 1) := by decide +kernel
theorem dX3_callAway_37 : decode cX3_callAway 37 = .ok (.iastore, 1) := by decide +kernel
theorem dX3_callAway_38 : decode cX3_callAway 38 = .ok (.aload_n 0, 1) := by decide +kernel
theorem dX3_callAway_39 : decode cX3_callAway 39 = .ok (.getfield 9, 3) := by decide +kernel
theorem dX3_callAway_42 : decode cX3_callAway 42 = .ok (.bipush 7, 2) := by decide +kernel
theorem dX3_callAway_44 : decode cX3_callAway 44 = .ok (.iload_n 3, 1) := by decide +kernel
theorem dX3_callAway_45 : decode cX3_callAway 45 = .ok (.iastore, 1) := by decide +kernel
theorem dX3_callAway_46 : decode cX3_callAway 46 = .ok (.return_, 1) := by decide +kernel
theorem dX3_comeBack_0 : decode cX3_comeBack 0 = .ok (.aload_n 0, 1) := by decide +kernel
theorem dX3_comeBack_1 : decode cX3_comeBack 1 = .ok (.getfield 9, 3) := by decide +kernel
theorem dX3_comeBack_4 : decode cX3_comeBack 4 = .ok (.bipush 9, 2) := by decide +kernel
theorem dX3_comeBack_6 : decode cX3_comeBack 6 = .ok (.iaload, 1) := by decide +kernel
theorem dX3_comeBack_7 : decode cX3_comeBack 7 = .ok (.ldc 118, 2) := by decide +kernel
theorem dX3_comeBack_9 : decode cX3_comeBack 9 = .ok (.iand, 1) := by decide +kernel
theorem dX3_comeBack_10 : decode cX3_comeBack 10 = .ok (.ifCond .eq 9, 3) := by decide +kernel
theorem dX3_comeBack_13 : decode cX3_comeBack 13 = .ok (.aload_n 0, 1) := by decide +kernel
theorem dX3_comeBack_14 : decode cX3_comeBack 14 = .ok (.iconst 0, 1) := by decide +kernel
theorem dX3_comeBack_15 : decode cX3_comeBack 15 = .ok (.putfield 43, 3) := by decide +kernel
theorem dX3_comeBack_18 : decode cX3_comeBack 18 = .ok (.return_, 1) := by decide +kernel
theorem dX3_comeBack_19 : decode cX3_comeBack 19 = .ok (.aload_n 0, 1) := by decide +kernel
theorem dX3_comeBack_20 : decode cX3_comeBack 20 = .ok (.getfield 9, 3) := by decide +kernel
theorem dX3_comeBack_23 : decode cX3_comeBack 23 = .ok (.bipush 8, 2) := by decide +kernel
theorem dX3_comeBack_25 : decode cX3_comeBack 25 = .ok (.aload_n 0, 1) := by decide +kernel
theorem dX3_comeBack_26 : decode cX3_comeBack 26 = .ok (.aload_n 0, 1) := by decide +kernel
theorem dX3_comeBack_27 : decode cX3_comeBack 27 = .ok (.getfield 9, 3) := by decide +kernel
theorem dX3_comeBack_30 : decode cX3_comeBack 30 = .ok (.bipush 6, 2) := by decide +kernel
theorem dX3_comeBack_32 : decode cX3_comeBack 32 = .ok (.iaload, 1) := by decide +kernel
theorem dX3_comeBack_33 : decode cX3_comeBack 33 = .ok (.invokevirtual 86, 3) := by decide +kernel
theorem dX3_comeBack_36 : decode cX3_comeBack 36 = .ok (.iastore, 1) := by decide +kernel
theorem dX3_comeBack_37 : decode cX3_comeBack 37 = .ok (.aload_n 0, 1) := by decide +kernel
theorem dX3_comeBack_38 : decode cX3_comeBack 38 = .ok (.getfield 9, 3) := by decide +kernel
theorem dX3_comeBack_41 : decode cX3_comeBack 41 = .ok (.bipush 9, 2) := by decide +kernel
theorem dX3_comeBack_43 : decode cX3_comeBack 43 = .ok (.aload_n 0, 1) := by decide +kernel
theorem dX3_comeBack_44 : decode cX3_comeBack 44 = .ok (.aload_n 0, 1) := by decide +kernel
theorem dX3_comeBack_45 : decode cX3_comeBack 45 = .ok (.getfield 9, 3) := by decide +kernel
theorem dX3_comeBack_48 : decode cX3_comeBack 48 = .ok (.bipush 6, 2) := by decide +kernel
theorem dX3_comeBack_50 : decode cX3_comeBack 50 = .ok (.iaload, 1) := by decide +kernel
theorem dX3_comeBack_51 : decode cX3_comeBack 51 = .ok (.iconst 1, 1) := by decide +kernel
theorem dX3_comeBack_52 : decode cX3_comeBack 52 = .ok (.iadd, 1) := by decide +kernel
theorem dX3_comeBack_53 : decode cX3_comeBack 53 = .ok (.ldc 66, 2) := by decide +kernel
theorem dX3_comeBack_55 : decode cX3_comeBack 55 = .ok (.iand, 1) := by decide +kernel
theorem dX3_comeBack_56 : decode cX3_comeBack 56 = .ok (.invokevirtual 86, 3) := by decide +kernel
theorem dX3_comeBack_59 : decode cX3_comeBack 59 = .ok (.ldc 122, 2) := by decide +kernel
theorem dX3_comeBack_61 : decode cX3_comeBack 61 = .ok (.iand, 1) := by decide +kernel
theorem dX3_comeBack_62 : decode cX3_comeBack 62 = .ok (.iastore, 1) := by decide +kernel
theorem dX3_comeBack_63 : decode cX3_comeBack 63 = .ok (.aload_n 0, 1) := by decide +kernel
theorem dX3_comeBack_64 : decode cX3_comeBack 64 = .ok (.getfield 9, 3) := by decide +kernel
theorem dX3_comeBack_67 : decode cX3_comeBack 67 = .ok (.bipush 6, 2) := by decide +kernel
theorem dX3_comeBack_69 : decode cX3_comeBack 69 = .ok (.aload_n 0, 1) := by decide +kernel
theorem dX3_comeBack_70 : decode cX3_comeBack 70 = .ok (.getfield 9, 3) := by decide +kernel
theorem dX3_comeBack_73 : decode cX3_comeBack 73 = .ok (.bipush 6, 2) := by decide +kernel
theorem dX3_comeBack_75 : decode cX3_comeBack 75 = .ok (.iaload, 1) := by decide +kernel
theorem dX3_comeBack_76 : decode cX3_comeBack 76 = .ok (.iconst 2, 1) := by decide +kernel
theorem dX3_comeBack_77 : decode cX3_comeBack 77 = .ok (.iadd, 1) := by decide +kernel
theorem dX3_comeBack_78 : decode cX3_comeBack 78 = .ok (.ldc 66, 2) := by decide +kernel
theorem dX3_comeBack_80 : decode cX3_comeBack 80 = .ok (.iand, 1) := by decide +kernel
theorem dX3_comeBack_81 : decode cX3_comeBack 81 = .ok (.iastore, 1) := by decide +kernel
theorem dX3_comeBack_82 : decode cX3_comeBack 82 = .ok (.aload_n 0, 1) := by decide +kernel
theorem dX3_comeBack_83 : decode cX3_comeBack 83 = .ok (.getfield 9, 3) := by decide +kernel
theorem dX3_comeBack_86 : decode cX3_comeBack 86 = .ok (.bipush 9, 2) := by decide +kernel
theorem dX3_comeBack_88 : decode cX3_comeBack 88 = .ok (.iaload, 1) := by decide +kernel
theorem dX3_comeBack_89 : decode cX3_comeBack 89 = .ok (.ldc 118, 2) := by decide +kernel
theorem dX3_comeBack_91 : decode cX3_comeBack 91 = .ok (.iand, 1) := by decide +kernel
theorem dX3_comeBack_92 : decode cX3_comeBack 92 = .ok (.ifCond .eq 31, 3) := by decide +kernel
theorem dX3_comeBack_95 : decode cX3_comeBack 95 = .ok (.aload_n 0, 1) := by decide +kernel
theorem dX3_comeBack_96 : decode cX3_comeBack 96 = .ok (.getfield 9, 3) := by decide +kernel
theorem dX3_comeBack_99 : decode cX3_comeBack 99 = .ok (.bipush 10, 2) := by decide +kernel
theorem dX3_comeBack_101 : decode cX3_comeBack 101 = .ok (.aload_n 0, 1) := by decide +kernel
theorem dX3_comeBack_102 : decode cX3_comeBack 102 = .ok (.getfield 9, 3) := by decide +kernel
theorem dX3_comeBack_105 : decode cX3_comeBack 105 = .ok (.bipush 6, 2) := by decide +kernel
theorem dX3_comeBack_107 : decode cX3_comeBack 107 = .ok (.iaload, 1) := by decide +kernel
theorem dX3_comeBack_108 : decode cX3_comeBack 108 = .ok (.iastore, 1) := by decide +kernel
theorem dX3_comeBack_109 : decode cX3_comeBack 109 = .ok (.aload_n 0, 1) := by decide +kernel
theorem dX3_comeBack_110 : decode cX3_comeBack 110 = .ok (.getfield 9, 3) := by decide +kernel
theorem dX3_comeBack_113 : decode cX3_comeBack 113 = .ok (.bipush 6, 2) := by decide +kernel
theorem dX3_comeBack_115 : decode cX3_comeBack 115 = .ok (.aload_n 0, 1) := by decide +kernel
theorem dX3_comeBack_116 : decode cX3_comeBack 116 = .ok (.getfield 9, 3) := by decide +kernel
theorem dX3_comeBack_119 : decode cX3_comeBack 119 = .ok (.bipush 11, 2) := by decide +kernel
theorem dX3_comeBack_121 : decode cX3_comeBack 121 = .ok (.iaload, 1) := by decide +kernel
theorem dX3_comeBack_122 : decode cX3_comeBack 122 = .ok (.iastore, 1) := by decide +kernel
theorem dX3_comeBack_123 : decode cX3_comeBack 123 = .ok (.return_, 1) := by decide +kernel
theorem dX3_trap_0 : decode cX3_trap 0 = .ok (.aload_n 0, 1) := by decide +kernel
theorem dX3_trap_1 : decode cX3_trap 1 = .ok (.getfield 21, 3) := by decide +kernel
theorem dX3_trap_4 : decode cX3_trap 4 = .ok (.iload_n 1, 1) := by decide +kernel
theorem dX3_trap_5 : decode cX3_trap 5 = .ok (.invokevirtual 123, 3) := by decide +kernel
theorem dX3_trap_8 : decode cX3_trap 8 = .ok (.ifCond .eq 19, 3) := by decide +kernel
theorem dX3_trap_11 : decode cX3_trap 11 = .ok (.aload_n 0, 1) := by decide +kernel
theorem dX3_trap_12 : decode cX3_trap 12 = .ok (.getfield 15, 3) := by decide +kernel
theorem dX3_trap_15 : decode cX3_trap 15 = .ok (.iconst 3, 1) := by decide +kernel
theorem dX3_trap_16 : decode cX3_trap 16 = .ok (.dup2, 1) := by decide +kernel
theorem dX3_trap_17 : decode cX3_trap 17 = .ok (.iaload, 1) := by decide +kernel
theorem dX3_trap_18 : decode cX3_trap 18 = .ok (.iconst 1, 1) := by decide +kernel
theorem dX3_trap_19 : decode cX3_trap 19 = .ok (.iadd, 1) := by decide +kernel
theorem dX3_trap_20 : decode cX3_trap 20 = .ok (.iastore, 1) := by decide +kernel
theorem dX3_trap_21 : decode cX3_trap 21 = .ok (.aload_n 0, 1) := by decide +kernel
theorem dX3_trap_22 : decode cX3_trap 22 = .ok (.iload_n 1, 1) := by decide +kernel
theorem dX3_trap_23 : decode cX3_trap 23 = .ok (.invokevirtual 82, 3) := by decide +kernel
theorem dX3_trap_26 : decode cX3_trap 26 = .ok (.return_, 1) := by decide +kernel
theorem dX3_trap_27 : decode cX3_trap 27 = .ok (.iload_n 1, 1) := by decide +kernel
theorem dX3_trap_28 : decode cX3_trap 28 = .ok (.tableswitch 100 32 37 #[40, 58, 74, 40, 74, 92], 40) := by decide +kernel
theorem dX3_trap_68 : decode cX3_trap 68 = .ok (.aload_n 0, 1) := by decide +kernel
theorem dX3_trap_69 : decode cX3_trap 69 = .ok (.iload_n 1, 1) := by decide +kernel
theorem dX3_trap_70 : decode cX3_trap 70 = .ok (.bipush 35, 2) := by decide +kernel
theorem dX3_trap_72 : decode cX3_trap 72 = .ok (.if_icmp .ne 7, 3) := by decide +kernel
theorem dX3_trap_75 : decode cX3_trap 75 = .ok (.iconst 1, 1) := by decide +kernel
theorem dX3_trap_76 : decode cX3_trap 76 = .ok (.goto 4, 3) := by decide +kernel
theorem dX3_trap_79 : decode cX3_trap 79 = .ok (.iconst 0, 1) := by decide +kernel
theorem dX3_trap_80 : decode cX3_trap 80 = .ok (.invokevirtual 126, 3) := by decide +kernel
theorem dX3_trap_83 : decode cX3_trap 83 = .ok (.goto 50, 3) := by decide +kernel
theorem dX3_trap_86 : decode cX3_trap 86 = .ok (.aload_n 0, 1) := by decide +kernel
theorem dX3_trap_87 : decode cX3_trap 87 = .ok (.getfield 35, 3) := by decide +kernel
theorem dX3_trap_90 : decode cX3_trap 90 = .ok (.aload_n 0, 1) := by decide +kernel
theorem dX3_trap_91 : decode cX3_trap 91 = .ok (.getfield 9, 3) := by decide +kernel
theorem dX3_trap_94 : decode cX3_trap 94 = .ok (.iconst 0, 1) := by decide +kernel
theorem dX3_trap_95 : decode cX3_trap 95 = .ok (.iaload, 1) := by decide +kernel
theorem dX3_trap_96 : decode cX3_trap 96 = .ok (.invokevirtual 130, 3) := by decide +kernel
theorem dX3_trap_99 : decode cX3_trap 99 = .ok (.goto 34, 3) := by decide +kernel
theorem dX3_trap_102 : decode cX3_trap 102 = .ok (.aload_n 0, 1) := by decide +kernel
theorem dX3_trap_103 : decode cX3_trap 103 = .ok (.iload_n 1, 1) := by decide +kernel
theorem dX3_trap_104 : decode cX3_trap 104 = .ok (.bipush 36, 2) := by decide +kernel
theorem dX3_trap_106 : decode cX3_trap 106 = .ok (.if_icmp .ne 7, 3) := by decide +kernel
theorem dX3_trap_109 : decode cX3_trap 109 = .ok (.iconst 1, 1) := by decide +kernel
theorem dX3_trap_110 : decode cX3_trap 110 = .ok (.goto 4, 3) := by decide +kernel
theorem dX3_trap_113 : decode cX3_trap 113 = .ok (.iconst 0, 1) := by decide +kernel
theorem dX3_trap_114 : decode cX3_trap 114 = .ok (.invokevirtual 132, 3) := by decide +kernel
theorem dX3_trap_117 : decode cX3_trap 117 = .ok (.goto 16, 3) := by decide +kernel
theorem dX3_trap_120 : decode cX3_trap 120 = .ok (.aload_n 0, 1) := by decide +kernel
theorem dX3_trap_121 : decode cX3_trap 121 = .ok (.iconst 1, 1) := by decide +kernel
theorem dX3_trap_122 : decode cX3_trap 122 = .ok (.putfield 39, 3) := by decide +kernel
theorem dX3_trap_125 : decode cX3_trap 125 = .ok (.goto 8, 3) := by decide +kernel
theorem dX3_trap_128 : decode cX3_trap 128 = .ok (.aload_n 0, 1) := by decide +kernel
theorem dX3_trap_129 : decode cX3_trap 129 = .ok (.iconst 1, 1) := by decide +kernel
theorem dX3_trap_130 : decode cX3_trap 130 = .ok (.putfield 43, 3) := by decide +kernel
theorem dX3_trap_133 : decode cX3_trap 133 = .ok (.return_, 1) := by decide +kernel
theorem dX3_takeKey_0 : decode cX3_takeKey 0 = .ok (.aload_n 0, 1) := by decide +kernel
theorem dX3_takeKey_1 : decode cX3_takeKey 1 = .ok (.getfield 28, 3) := by decide +kernel
theorem dX3_takeKey_4 : decode cX3_takeKey 4 = .ok (.getfield 135, 3) := by decide +kernel
theorem dX3_takeKey_7 : decode cX3_takeKey 7 = .ok (.ifCond .ne 28, 3) := by decide +kernel
theorem dX3_takeKey_10 : decode cX3_takeKey 10 = .ok (.aload_n 0, 1) := by decide +kernel
theorem dX3_takeKey_11 : decode cX3_takeKey 11 = .ok (.getfield 9, 3) := by decide +kernel
theorem dX3_takeKey_14 : decode cX3_takeKey 14 = .ok (.bipush 8, 2) := by decide +kernel
theorem dX3_takeKey_16 : decode cX3_takeKey 16 = .ok (.aload_n 0, 1) := by decide +kernel
theorem dX3_takeKey_17 : decode cX3_takeKey 17 = .ok (.getfield 9, 3) := by decide +kernel
theorem dX3_takeKey_20 : decode cX3_takeKey 20 = .ok (.bipush 8, 2) := by decide +kernel
theorem dX3_takeKey_22 : decode cX3_takeKey 22 = .ok (.iaload, 1) := by decide +kernel
theorem dX3_takeKey_23 : decode cX3_takeKey 23 = .ok (.iconst 1, 1) := by decide +kernel
theorem dX3_takeKey_24 : decode cX3_takeKey 24 = .ok (.isub, 1) := by decide +kernel
theorem dX3_takeKey_25 : decode cX3_takeKey 25 = .ok (.ldc 66, 2) := by decide +kernel
theorem dX3_takeKey_27 : decode cX3_takeKey 27 = .ok (.iand, 1) := by decide +kernel
theorem dX3_takeKey_28 : decode cX3_takeKey 28 = .ok (.iastore, 1) := by decide +kernel
theorem dX3_takeKey_29 : decode cX3_takeKey 29 = .ok (.aload_n 0, 1) := by decide +kernel
theorem dX3_takeKey_30 : decode cX3_takeKey 30 = .ok (.iconst 2, 1) := by decide +kernel
theorem dX3_takeKey_31 : decode cX3_takeKey 31 = .ok (.putfield 39, 3) := by decide +kernel
theorem dX3_takeKey_34 : decode cX3_takeKey 34 = .ok (.return_, 1) := by decide +kernel
theorem dX3_takeKey_35 : decode cX3_takeKey 35 = .ok (.aload_n 0, 1) := by decide +kernel
theorem dX3_takeKey_36 : decode cX3_takeKey 36 = .ok (.getfield 9, 3) := by decide +kernel
theorem dX3_takeKey_39 : decode cX3_takeKey 39 = .ok (.iconst 0, 1) := by decide +kernel
theorem dX3_takeKey_40 : decode cX3_takeKey 40 = .ok (.aload_n 0, 1) := by decide +kernel
theorem dX3_takeKey_41 : decode cX3_takeKey 41 = .ok (.getfield 28, 3) := by decide +kernel
theorem dX3_takeKey_44 : decode cX3_takeKey 44 = .ok (.invokevirtual 138, 3) := by decide +kernel
theorem dX3_takeKey_47 : decode cX3_takeKey 47 = .ok (.iastore, 1) := by decide +kernel
theorem dX3_takeKey_48 : decode cX3_takeKey 48 = .ok (.aload_n 0, 1) := by decide +kernel
theorem dX3_takeKey_49 : decode cX3_takeKey 49 = .ok (.getfield 28, 3) := by decide +kernel
theorem dX3_takeKey_52 : decode cX3_takeKey 52 = .ok (.invokevirtual 141, 3) := by decide +kernel
theorem dX3_takeKey_55 : decode cX3_takeKey 55 = .ok (.iload_n 1, 1) := by decide +kernel
theorem dX3_takeKey_56 : decode cX3_takeKey 56 = .ok (.ifCond .eq 16, 3) := by decide +kernel
theorem dX3_takeKey_59 : decode cX3_takeKey 59 = .ok (.aload_n 0, 1) := by decide +kernel
theorem dX3_takeKey_60 : decode cX3_takeKey 60 = .ok (.getfield 35, 3) := by decide +kernel
theorem dX3_takeKey_63 : decode cX3_takeKey 63 = .ok (.aload_n 0, 1) := by decide +kernel
theorem dX3_takeKey_64 : decode cX3_takeKey 64 = .ok (.getfield 9, 3) := by decide +kernel
theorem dX3_takeKey_67 : decode cX3_takeKey 67 = .ok (.iconst 0, 1) := by decide +kernel
theorem dX3_takeKey_68 : decode cX3_takeKey 68 = .ok (.iaload, 1) := by decide +kernel
theorem dX3_takeKey_69 : decode cX3_takeKey 69 = .ok (.invokevirtual 130, 3) := by decide +kernel
theorem dX3_takeKey_72 : decode cX3_takeKey 72 = .ok (.return_, 1) := by decide +kernel
theorem dX3_printWords_0 : decode cX3_printWords 0 = .ok (.iconst 0, 1) := by decide +kernel
theorem dX3_printWords_1 : decode cX3_printWords 1 = .ok (.istore_n 2, 1) := by decide +kernel
theorem dX3_printWords_2 : decode cX3_printWords 2 = .ok (.iload_n 2, 1) := by decide +kernel
theorem dX3_printWords_3 : decode cX3_printWords 3 = .ok (.sipush 4096, 3) := by decide +kernel
theorem dX3_printWords_6 : decode cX3_printWords 6 = .ok (.if_icmp .ge 60, 3) := by decide +kernel
theorem dX3_printWords_9 : decode cX3_printWords 9 = .ok (.aload_n 0, 1) := by decide +kernel
theorem dX3_printWords_10 : decode cX3_printWords 10 = .ok (.aload_n 0, 1) := by decide +kernel
theorem dX3_printWords_11 : decode cX3_printWords 11 = .ok (.getfield 9, 3) := by decide +kernel
theorem dX3_printWords_14 : decode cX3_printWords 14 = .ok (.iconst 0, 1) := by decide +kernel
theorem dX3_printWords_15 : decode cX3_printWords 15 = .ok (.iaload, 1) := by decide +kernel
theorem dX3_printWords_16 : decode cX3_printWords 16 = .ok (.iload_n 2, 1) := by decide +kernel
theorem dX3_printWords_17 : decode cX3_printWords 17 = .ok (.iadd, 1) := by decide +kernel
theorem dX3_printWords_18 : decode cX3_printWords 18 = .ok (.ldc 66, 2) := by decide +kernel
theorem dX3_printWords_20 : decode cX3_printWords 20 = .ok (.iand, 1) := by decide +kernel
theorem dX3_printWords_21 : decode cX3_printWords 21 = .ok (.invokevirtual 144, 3) := by decide +kernel
theorem dX3_printWords_24 : decode cX3_printWords 24 = .ok (.istore_n 3, 1) := by decide +kernel
theorem dX3_printWords_25 : decode cX3_printWords 25 = .ok (.iload_n 3, 1) := by decide +kernel
theorem dX3_printWords_26 : decode cX3_printWords 26 = .ok (.ifCond .ne 4, 3) := by decide +kernel
theorem dX3_printWords_29 : decode cX3_printWords 29 = .ok (.return_, 1) := by decide +kernel
theorem dX3_printWords_30 : decode cX3_printWords 30 = .ok (.aload_n 0, 1) := by decide +kernel
theorem dX3_printWords_31 : decode cX3_printWords 31 = .ok (.getfield 35, 3) := by decide +kernel
theorem dX3_printWords_34 : decode cX3_printWords 34 = .ok (.iload_n 3, 1) := by decide +kernel
theorem dX3_printWords_35 : decode cX3_printWords 35 = .ok (.invokevirtual 130, 3) := by decide +kernel
theorem dX3_printWords_38 : decode cX3_printWords 38 = .ok (.iload_n 1, 1) := by decide +kernel
theorem dX3_printWords_39 : decode cX3_printWords 39 = .ok (.ifCond .eq 21, 3) := by decide +kernel
theorem dX3_printWords_42 : decode cX3_printWords 42 = .ok (.iload_n 3, 1) := by decide +kernel
theorem dX3_printWords_43 : decode cX3_printWords 43 = .ok (.bipush 8, 2) := by decide +kernel
theorem dX3_printWords_45 : decode cX3_printWords 45 = .ok (.ishr, 1) := by decide +kernel
theorem dX3_printWords_46 : decode cX3_printWords 46 = .ok (.ifCond .eq 14, 3) := by decide +kernel
theorem dX3_printWords_49 : decode cX3_printWords 49 = .ok (.aload_n 0, 1) := by decide +kernel
theorem dX3_printWords_50 : decode cX3_printWords 50 = .ok (.getfield 35, 3) := by decide +kernel
theorem dX3_printWords_53 : decode cX3_printWords 53 = .ok (.iload_n 3, 1) := by decide +kernel
theorem dX3_printWords_54 : decode cX3_printWords 54 = .ok (.bipush 8, 2) := by decide +kernel
theorem dX3_printWords_56 : decode cX3_printWords 56 = .ok (.ishr, 1) := by decide +kernel
theorem dX3_printWords_57 : decode cX3_printWords 57 = .ok (.invokevirtual 130, 3) := by decide +kernel
theorem dX3_printWords_60 : decode cX3_printWords 60 = .ok (.iinc 2 1, 3) := by decide +kernel
theorem dX3_printWords_63 : decode cX3_printWords 63 = .ok (.goto (-61), 3) := by decide +kernel
theorem dX3_printWords_66 : decode cX3_printWords 66 = .ok (.return_, 1) := by decide +kernel
theorem dX3_enter_0 : decode cX3_enter 0 = .ok (.aload_n 0, 1) := by decide +kernel
theorem dX3_enter_1 : decode cX3_enter 1 = .ok (.getfield 9, 3) := by decide +kernel
theorem dX3_enter_4 : decode cX3_enter 4 = .ok (.bipush 9, 2) := by decide +kernel
theorem dX3_enter_6 : decode cX3_enter 6 = .ok (.iaload, 1) := by decide +kernel
theorem dX3_enter_7 : decode cX3_enter 7 = .ok (.istore_n 2, 1) := by decide +kernel
theorem dX3_enter_8 : decode cX3_enter 8 = .ok (.iload_n 2, 1) := by decide +kernel
theorem dX3_enter_9 : decode cX3_enter 9 = .ok (.ldc 118, 2) := by decide +kernel
theorem dX3_enter_11 : decode cX3_enter 11 = .ok (.iand, 1) := by decide +kernel
theorem dX3_enter_12 : decode cX3_enter 12 = .ok (.ifCond .eq 31, 3) := by decide +kernel
theorem dX3_enter_15 : decode cX3_enter 15 = .ok (.aload_n 0, 1) := by decide +kernel
theorem dX3_enter_16 : decode cX3_enter 16 = .ok (.getfield 9, 3) := by decide +kernel
theorem dX3_enter_19 : decode cX3_enter 19 = .ok (.bipush 11, 2) := by decide +kernel
theorem dX3_enter_21 : decode cX3_enter 21 = .ok (.aload_n 0, 1) := by decide +kernel
theorem dX3_enter_22 : decode cX3_enter 22 = .ok (.getfield 9, 3) := by decide +kernel
theorem dX3_enter_25 : decode cX3_enter 25 = .ok (.bipush 6, 2) := by decide +kernel
theorem dX3_enter_27 : decode cX3_enter 27 = .ok (.iaload, 1) := by decide +kernel
theorem dX3_enter_28 : decode cX3_enter 28 = .ok (.iastore, 1) := by decide +kernel
theorem dX3_enter_29 : decode cX3_enter 29 = .ok (.aload_n 0, 1) := by decide +kernel
theorem dX3_enter_30 : decode cX3_enter 30 = .ok (.getfield 9, 3) := by decide +kernel
theorem dX3_enter_33 : decode cX3_enter 33 = .ok (.bipush 6, 2) := by decide +kernel
theorem dX3_enter_35 : decode cX3_enter 35 = .ok (.aload_n 0, 1) := by decide +kernel
theorem dX3_enter_36 : decode cX3_enter 36 = .ok (.getfield 9, 3) := by decide +kernel
theorem dX3_enter_39 : decode cX3_enter 39 = .ok (.bipush 10, 2) := by decide +kernel
theorem dX3_enter_41 : decode cX3_enter 41 = .ok (.iaload, 1) := by decide +kernel
theorem dX3_enter_42 : decode cX3_enter 42 = .ok (.iastore, 1) := by decide +kernel
theorem dX3_enter_43 : decode cX3_enter 43 = .ok (.aload_n 0, 1) := by decide +kernel
theorem dX3_enter_44 : decode cX3_enter 44 = .ok (.getfield 9, 3) := by decide +kernel
theorem dX3_enter_47 : decode cX3_enter 47 = .ok (.bipush 9, 2) := by decide +kernel
theorem dX3_enter_49 : decode cX3_enter 49 = .ok (.iload_n 2, 1) := by decide +kernel
theorem dX3_enter_50 : decode cX3_enter 50 = .ok (.ldc 147, 2) := by decide +kernel
theorem dX3_enter_52 : decode cX3_enter 52 = .ok (.iand, 1) := by decide +kernel
theorem dX3_enter_53 : decode cX3_enter 53 = .ok (.iastore, 1) := by decide +kernel
theorem dX3_enter_54 : decode cX3_enter 54 = .ok (.aload_n 0, 1) := by decide +kernel
theorem dX3_enter_55 : decode cX3_enter 55 = .ok (.getfield 9, 3) := by decide +kernel
theorem dX3_enter_58 : decode cX3_enter 58 = .ok (.bipush 6, 2) := by decide +kernel
theorem dX3_enter_60 : decode cX3_enter 60 = .ok (.aload_n 0, 1) := by decide +kernel
theorem dX3_enter_61 : decode cX3_enter 61 = .ok (.getfield 9, 3) := by decide +kernel
theorem dX3_enter_64 : decode cX3_enter 64 = .ok (.bipush 6, 2) := by decide +kernel
theorem dX3_enter_66 : decode cX3_enter 66 = .ok (.iaload, 1) := by decide +kernel
theorem dX3_enter_67 : decode cX3_enter 67 = .ok (.iconst 1, 1) := by decide +kernel
theorem dX3_enter_68 : decode cX3_enter 68 = .ok (.isub, 1) := by decide +kernel
theorem dX3_enter_69 : decode cX3_enter 69 = .ok (.ldc 66, 2) := by decide +kernel
theorem dX3_enter_71 : decode cX3_enter 71 = .ok (.iand, 1) := by decide +kernel
theorem dX3_enter_72 : decode cX3_enter 72 = .ok (.iastore, 1) := by decide +kernel
theorem dX3_enter_73 : decode cX3_enter 73 = .ok (.aload_n 0, 1) := by decide +kernel
theorem dX3_enter_74 : decode cX3_enter 74 = .ok (.aload_n 0, 1) := by decide +kernel
theorem dX3_enter_75 : decode cX3_enter 75 = .ok (.getfield 9, 3) := by decide +kernel
theorem dX3_enter_78 : decode cX3_enter 78 = .ok (.bipush 6, 2) := by decide +kernel
theorem dX3_enter_80 : decode cX3_enter 80 = .ok (.iaload, 1) := by decide +kernel
theorem dX3_enter_81 : decode cX3_enter 81 = .ok (.iload_n 2, 1) := by decide +kernel
theorem dX3_enter_82 : decode cX3_enter 82 = .ok (.invokevirtual 119, 3) := by decide +kernel
theorem dX3_enter_85 : decode cX3_enter 85 = .ok (.aload_n 0, 1) := by decide +kernel
theorem dX3_enter_86 : decode cX3_enter 86 = .ok (.getfield 9, 3) := by decide +kernel
theorem dX3_enter_89 : decode cX3_enter 89 = .ok (.bipush 6, 2) := by decide +kernel
theorem dX3_enter_91 : decode cX3_enter 91 = .ok (.aload_n 0, 1) := by decide +kernel
theorem dX3_enter_92 : decode cX3_enter 92 = .ok (.getfield 9, 3) := by decide +kernel
theorem dX3_enter_95 : decode cX3_enter 95 = .ok (.bipush 6, 2) := by decide +kernel
theorem dX3_enter_97 : decode cX3_enter 97 = .ok (.iaload, 1) := by decide +kernel
theorem dX3_enter_98 : decode cX3_enter 98 = .ok (.iconst 1, 1) := by decide +kernel
theorem dX3_enter_99 : decode cX3_enter 99 = .ok (.isub, 1) := by decide +kernel
theorem dX3_enter_100 : decode cX3_enter 100 = .ok (.ldc 66, 2) := by decide +kernel
theorem dX3_enter_102 : decode cX3_enter 102 = .ok (.iand, 1) := by decide +kernel
theorem dX3_enter_103 : decode cX3_enter 103 = .ok (.iastore, 1) := by decide +kernel
theorem dX3_enter_104 : decode cX3_enter 104 = .ok (.aload_n 0, 1) := by decide +kernel
theorem dX3_enter_105 : decode cX3_enter 105 = .ok (.aload_n 0, 1) := by decide +kernel
theorem dX3_enter_106 : decode cX3_enter 106 = .ok (.getfield 9, 3) := by decide +kernel
theorem dX3_enter_109 : decode cX3_enter 109 = .ok (.bipush 6, 2) := by decide +kernel
theorem dX3_enter_111 : decode cX3_enter 111 = .ok (.iaload, 1) := by decide +kernel
theorem dX3_enter_112 : decode cX3_enter 112 = .ok (.aload_n 0, 1) := by decide +kernel
theorem dX3_enter_113 : decode cX3_enter 113 = .ok (.getfield 9, 3) := by decide +kernel
theorem dX3_enter_116 : decode cX3_enter 116 = .ok (.bipush 8, 2) := by decide +kernel
theorem dX3_enter_118 : decode cX3_enter 118 = .ok (.iaload, 1) := by decide +kernel
theorem dX3_enter_119 : decode cX3_enter 119 = .ok (.invokevirtual 119, 3) := by decide +kernel
theorem dX3_enter_122 : decode cX3_enter 122 = .ok (.aload_n 0, 1) := by decide +kernel
theorem dX3_enter_123 : decode cX3_enter 123 = .ok (.getfield 9, 3) := by decide +kernel
theorem dX3_enter_126 : decode cX3_enter 126 = .ok (.bipush 8, 2) := by decide +kernel
theorem dX3_enter_128 : decode cX3_enter 128 = .ok (.aload_n 0, 1) := by decide +kernel
theorem dX3_enter_129 : decode cX3_enter 129 = .ok (.getfield 21, 3) := by decide +kernel
theorem dX3_enter_132 : decode cX3_enter 132 = .ok (.iload_n 1, 1) := by decide +kernel
theorem dX3_enter_133 : decode cX3_enter 133 = .ok (.invokevirtual 123, 3) := by decide +kernel
theorem dX3_enter_136 : decode cX3_enter 136 = .ok (.iastore, 1) := by decide +kernel
theorem dX3_enter_137 : decode cX3_enter 137 = .ok (.return_, 1) := by decide +kernel
theorem dX3_isBarred_0 : decode cX3_isBarred 0 = .ok (.aload_n 0, 1) := by decide +kernel
theorem dX3_isBarred_1 : decode cX3_isBarred 1 = .ok (.getfield 9, 3) := by decide +kernel
theorem dX3_isBarred_4 : decode cX3_isBarred 4 = .ok (.bipush 9, 2) := by decide +kernel
theorem dX3_isBarred_6 : decode cX3_isBarred 6 = .ok (.iaload, 1) := by decide +kernel
theorem dX3_isBarred_7 : decode cX3_isBarred 7 = .ok (.ldc 118, 2) := by decide +kernel
theorem dX3_isBarred_9 : decode cX3_isBarred 9 = .ok (.iand, 1) := by decide +kernel
theorem dX3_isBarred_10 : decode cX3_isBarred 10 = .ok (.ifCond .eq 20, 3) := by decide +kernel
theorem dX3_isBarred_13 : decode cX3_isBarred 13 = .ok (.iload_n 1, 1) := by decide +kernel
theorem dX3_isBarred_14 : decode cX3_isBarred 14 = .ok (.sipush 12288, 3) := by decide +kernel
theorem dX3_isBarred_17 : decode cX3_isBarred 17 = .ok (.if_icmp .lt 9, 3) := by decide +kernel
theorem dX3_isBarred_20 : decode cX3_isBarred 20 = .ok (.iload_n 1, 1) := by decide +kernel
theorem dX3_isBarred_21 : decode cX3_isBarred 21 = .ok (.ldc 50, 2) := by decide +kernel
theorem dX3_isBarred_23 : decode cX3_isBarred 23 = .ok (.if_icmp .lt 7, 3) := by decide +kernel
theorem dX3_isBarred_26 : decode cX3_isBarred 26 = .ok (.iconst 1, 1) := by decide +kernel
theorem dX3_isBarred_27 : decode cX3_isBarred 27 = .ok (.goto 4, 3) := by decide +kernel
theorem dX3_isBarred_30 : decode cX3_isBarred 30 = .ok (.iconst 0, 1) := by decide +kernel
theorem dX3_isBarred_31 : decode cX3_isBarred 31 = .ok (.ireturn, 1) := by decide +kernel
theorem dX3_look_0 : decode cX3_look 0 = .ok (.iload_n 1, 1) := by decide +kernel
theorem dX3_look_1 : decode cX3_look 1 = .ok (.lookupswitch 72 #[(65024, 51), (65026, 59), (65028, 67), (65030, 70), (65534, 67)], 51) := by decide +kernel
theorem dX3_look_52 : decode cX3_look 52 = .ok (.aload_n 0, 1) := by decide +kernel
theorem dX3_look_53 : decode cX3_look 53 = .ok (.getfield 28, 3) := by decide +kernel
theorem dX3_look_56 : decode cX3_look 56 = .ok (.invokevirtual 77, 3) := by decide +kernel
theorem dX3_look_59 : decode cX3_look 59 = .ok (.ireturn, 1) := by decide +kernel
theorem dX3_look_60 : decode cX3_look 60 = .ok (.aload_n 0, 1) := by decide +kernel
theorem dX3_look_61 : decode cX3_look 61 = .ok (.getfield 28, 3) := by decide +kernel
theorem dX3_look_64 : decode cX3_look 64 = .ok (.invokevirtual 138, 3) := by decide +kernel
theorem dX3_look_67 : decode cX3_look 67 = .ok (.ireturn, 1) := by decide +kernel
theorem dX3_look_68 : decode cX3_look 68 = .ok (.ldc 118, 2) := by decide +kernel
theorem dX3_look_70 : decode cX3_look 70 = .ok (.ireturn, 1) := by decide +kernel
theorem dX3_look_71 : decode cX3_look 71 = .ok (.iconst 0, 1) := by decide +kernel
theorem dX3_look_72 : decode cX3_look 72 = .ok (.ireturn, 1) := by decide +kernel
theorem dX3_look_73 : decode cX3_look 73 = .ok (.aload_n 0, 1) := by decide +kernel
theorem dX3_look_74 : decode cX3_look 74 = .ok (.getfield 21, 3) := by decide +kernel
theorem dX3_look_77 : decode cX3_look 77 = .ok (.iload_n 1, 1) := by decide +kernel
theorem dX3_look_78 : decode cX3_look 78 = .ok (.invokevirtual 123, 3) := by decide +kernel
theorem dX3_look_81 : decode cX3_look 81 = .ok (.ireturn, 1) := by decide +kernel
theorem dX3_fetch_0 : decode cX3_fetch 0 = .ok (.aload_n 0, 1) := by decide +kernel
theorem dX3_fetch_1 : decode cX3_fetch 1 = .ok (.iload_n 1, 1) := by decide +kernel
theorem dX3_fetch_2 : decode cX3_fetch 2 = .ok (.invokevirtual 148, 3) := by decide +kernel
theorem dX3_fetch_5 : decode cX3_fetch 5 = .ok (.ifCond .eq 10, 3) := by decide +kernel
theorem dX3_fetch_8 : decode cX3_fetch 8 = .ok (.aload_n 0, 1) := by decide +kernel
theorem dX3_fetch_9 : decode cX3_fetch 9 = .ok (.iconst 2, 1) := by decide +kernel
theorem dX3_fetch_10 : decode cX3_fetch 10 = .ok (.putfield 43, 3) := by decide +kernel
theorem dX3_fetch_13 : decode cX3_fetch 13 = .ok (.iconst 0, 1) := by decide +kernel
theorem dX3_fetch_14 : decode cX3_fetch 14 = .ok (.ireturn, 1) := by decide +kernel
theorem dX3_fetch_15 : decode cX3_fetch 15 = .ok (.aload_n 0, 1) := by decide +kernel
theorem dX3_fetch_16 : decode cX3_fetch 16 = .ok (.iload_n 1, 1) := by decide +kernel
theorem dX3_fetch_17 : decode cX3_fetch 17 = .ok (.invokevirtual 144, 3) := by decide +kernel
theorem dX3_fetch_20 : decode cX3_fetch 20 = .ok (.istore_n 2, 1) := by decide +kernel
theorem dX3_fetch_21 : decode cX3_fetch 21 = .ok (.iload_n 1, 1) := by decide +kernel
theorem dX3_fetch_22 : decode cX3_fetch 22 = .ok (.ldc 151, 2) := by decide +kernel
theorem dX3_fetch_24 : decode cX3_fetch 24 = .ok (.if_icmp .ne 18, 3) := by decide +kernel
theorem dX3_fetch_27 : decode cX3_fetch 27 = .ok (.aload_n 0, 1) := by decide +kernel
theorem dX3_fetch_28 : decode cX3_fetch 28 = .ok (.getfield 28, 3) := by decide +kernel
theorem dX3_fetch_31 : decode cX3_fetch 31 = .ok (.iload_n 2, 1) := by decide +kernel
theorem dX3_fetch_32 : decode cX3_fetch 32 = .ok (.putfield 152, 3) := by decide +kernel
theorem dX3_fetch_35 : decode cX3_fetch 35 = .ok (.aload_n 0, 1) := by decide +kernel
theorem dX3_fetch_36 : decode cX3_fetch 36 = .ok (.getfield 28, 3) := by decide +kernel
theorem dX3_fetch_39 : decode cX3_fetch 39 = .ok (.invokevirtual 141, 3) := by decide +kernel
theorem dX3_fetch_42 : decode cX3_fetch 42 = .ok (.iload_n 2, 1) := by decide +kernel
theorem dX3_fetch_43 : decode cX3_fetch 43 = .ok (.ireturn, 1) := by decide +kernel
theorem dX3_put_0 : decode cX3_put 0 = .ok (.aload_n 0, 1) := by decide +kernel
theorem dX3_put_1 : decode cX3_put 1 = .ok (.iload_n 1, 1) := by decide +kernel
theorem dX3_put_2 : decode cX3_put 2 = .ok (.invokevirtual 148, 3) := by decide +kernel
theorem dX3_put_5 : decode cX3_put 5 = .ok (.ifCond .eq 9, 3) := by decide +kernel
theorem dX3_put_8 : decode cX3_put 8 = .ok (.aload_n 0, 1) := by decide +kernel
theorem dX3_put_9 : decode cX3_put 9 = .ok (.iconst 2, 1) := by decide +kernel
theorem dX3_put_10 : decode cX3_put 10 = .ok (.putfield 43, 3) := by decide +kernel
theorem dX3_put_13 : decode cX3_put 13 = .ok (.return_, 1) := by decide +kernel
theorem dX3_put_14 : decode cX3_put 14 = .ok (.iload_n 1, 1) := by decide +kernel
theorem dX3_put_15 : decode cX3_put 15 = .ok (.lookupswitch 93 #[(65024, 49), (65026, 90), (65028, 90), (65030, 64), (65534, 75)], 49) := by decide +kernel
theorem dX3_put_64 : decode cX3_put 64 = .ok (.aload_n 0, 1) := by decide +kernel
theorem dX3_put_65 : decode cX3_put 65 = .ok (.getfield 28, 3) := by decide +kernel
theorem dX3_put_68 : decode cX3_put 68 = .ok (.iload_n 2, 1) := by decide +kernel
theorem dX3_put_69 : decode cX3_put 69 = .ok (.sipush 16384, 3) := by decide +kernel
theorem dX3_put_72 : decode cX3_put 72 = .ok (.iand, 1) := by decide +kernel
theorem dX3_put_73 : decode cX3_put 73 = .ok (.putfield 155, 3) := by decide +kernel
theorem dX3_put_76 : decode cX3_put 76 = .ok (.goto 41, 3) := by decide +kernel
theorem dX3_put_79 : decode cX3_put 79 = .ok (.aload_n 0, 1) := by decide +kernel
theorem dX3_put_80 : decode cX3_put 80 = .ok (.getfield 35, 3) := by decide +kernel
theorem dX3_put_83 : decode cX3_put 83 = .ok (.iload_n 2, 1) := by decide +kernel
theorem dX3_put_84 : decode cX3_put 84 = .ok (.invokevirtual 130, 3) := by decide +kernel
theorem dX3_put_87 : decode cX3_put 87 = .ok (.goto 30, 3) := by decide +kernel
theorem dX3_put_90 : decode cX3_put 90 = .ok (.iload_n 2, 1) := by decide +kernel
theorem dX3_put_91 : decode cX3_put 91 = .ok (.ldc 118, 2) := by decide +kernel
theorem dX3_put_93 : decode cX3_put 93 = .ok (.iand, 1) := by decide +kernel
theorem dX3_put_94 : decode cX3_put 94 = .ok (.ifCond .ne 23, 3) := by decide +kernel
theorem dX3_put_97 : decode cX3_put 97 = .ok (.aload_n 0, 1) := by decide +kernel
theorem dX3_put_98 : decode cX3_put 98 = .ok (.iconst 1, 1) := by decide +kernel
theorem dX3_put_99 : decode cX3_put 99 = .ok (.putfield 39, 3) := by decide +kernel
theorem dX3_put_102 : decode cX3_put 102 = .ok (.goto 15, 3) := by decide +kernel
theorem dX3_put_105 : decode cX3_put 105 = .ok (.goto 12, 3) := by decide +kernel
theorem dX3_put_108 : decode cX3_put 108 = .ok (.aload_n 0, 1) := by decide +kernel
theorem dX3_put_109 : decode cX3_put 109 = .ok (.getfield 21, 3) := by decide +kernel
theorem dX3_put_112 : decode cX3_put 112 = .ok (.iload_n 1, 1) := by decide +kernel
theorem dX3_put_113 : decode cX3_put 113 = .ok (.iload_n 2, 1) := by decide +kernel
theorem dX3_put_114 : decode cX3_put 114 = .ok (.invokevirtual 62, 3) := by decide +kernel
theorem dX3_put_117 : decode cX3_put 117 = .ok (.return_, 1) := by decide +kernel
theorem dX4_init_0 : decode cX4_init 0 = .ok (.aload_n 0, 1) := by decide +kernel
theorem dX4_init_1 : decode cX4_init 1 = .ok (.invokespecial 3, 3) := by decide +kernel
theorem dX4_init_4 : decode cX4_init 4 = .ok (.aload_n 0, 1) := by decide +kernel
theorem dX4_init_5 : decode cX4_init 5 = .ok (.sipush 256, 3) := by decide +kernel
theorem dX4_init_8 : decode cX4_init 8 = .ok (.anewarray 11, 3) := by decide +kernel
theorem dX4_init_11 : decode cX4_init 11 = .ok (.putfield 13, 3) := by decide +kernel
theorem dX4_init_14 : decode cX4_init 14 = .ok (.return_, 1) := by decide +kernel
theorem dX4_at_0 : decode cX4_at 0 = .ok (.aload_n 0, 1) := by decide +kernel
theorem dX4_at_1 : decode cX4_at 1 = .ok (.getfield 13, 3) := by decide +kernel
theorem dX4_at_4 : decode cX4_at 4 = .ok (.iload_n 1, 1) := by decide +kernel
theorem dX4_at_5 : decode cX4_at 5 = .ok (.bipush 8, 2) := by decide +kernel
theorem dX4_at_7 : decode cX4_at 7 = .ok (.ishr, 1) := by decide +kernel
theorem dX4_at_8 : decode cX4_at 8 = .ok (.sipush 255, 3) := by decide +kernel
theorem dX4_at_11 : decode cX4_at 11 = .ok (.iand, 1) := by decide +kernel
theorem dX4_at_12 : decode cX4_at 12 = .ok (.aaload, 1) := by decide +kernel
theorem dX4_at_13 : decode cX4_at 13 = .ok (.astore_n 2, 1) := by decide +kernel
theorem dX4_at_14 : decode cX4_at 14 = .ok (.aload_n 2, 1) := by decide +kernel
theorem dX4_at_15 : decode cX4_at 15 = .ok (.ifnonnull 7, 3) := by decide +kernel
theorem dX4_at_18 : decode cX4_at 18 = .ok (.iconst 0, 1) := by decide +kernel
theorem dX4_at_19 : decode cX4_at 19 = .ok (.goto 10, 3) := by decide +kernel
theorem dX4_at_22 : decode cX4_at 22 = .ok (.aload_n 2, 1) := by decide +kernel
theorem dX4_at_23 : decode cX4_at 23 = .ok (.iload_n 1, 1) := by decide +kernel
theorem dX4_at_24 : decode cX4_at 24 = .ok (.sipush 255, 3) := by decide +kernel
theorem dX4_at_27 : decode cX4_at 27 = .ok (.iand, 1) := by decide +kernel
theorem dX4_at_28 : decode cX4_at 28 = .ok (.iaload, 1) := by decide +kernel
theorem dX4_at_29 : decode cX4_at 29 = .ok (.ireturn, 1) := by decide +kernel
theorem dX4_keep_0 : decode cX4_keep 0 = .ok (.aload_n 0, 1) := by decide +kernel
theorem dX4_keep_1 : decode cX4_keep 1 = .ok (.getfield 13, 3) := by decide +kernel
theorem dX4_keep_4 : decode cX4_keep 4 = .ok (.iload_n 1, 1) := by decide +kernel
theorem dX4_keep_5 : decode cX4_keep 5 = .ok (.bipush 8, 2) := by decide +kernel
theorem dX4_keep_7 : decode cX4_keep 7 = .ok (.ishr, 1) := by decide +kernel
theorem dX4_keep_8 : decode cX4_keep 8 = .ok (.sipush 255, 3) := by decide +kernel
theorem dX4_keep_11 : decode cX4_keep 11 = .ok (.iand, 1) := by decide +kernel
theorem dX4_keep_12 : decode cX4_keep 12 = .ok (.aaload, 1) := by decide +kernel
theorem dX4_keep_13 : decode cX4_keep 13 = .ok (.astore_n 3, 1) := by decide +kernel
theorem dX4_keep_14 : decode cX4_keep 14 = .ok (.aload_n 3, 1) := by decide +kernel
theorem dX4_keep_15 : decode cX4_keep 15 = .ok (.ifnonnull 23, 3) := by decide +kernel
theorem dX4_keep_18 : decode cX4_keep 18 = .ok (.sipush 256, 3) := by decide +kernel
theorem dX4_keep_21 : decode cX4_keep 21 = .ok (.newarray .int, 2) := by decide +kernel
theorem dX4_keep_23 : decode cX4_keep 23 = .ok (.astore_n 3, 1) := by decide +kernel
theorem dX4_keep_24 : decode cX4_keep 24 = .ok (.aload_n 0, 1) := by decide +kernel
theorem dX4_keep_25 : decode cX4_keep 25 = .ok (.getfield 13, 3) := by decide +kernel
theorem dX4_keep_28 : decode cX4_keep 28 = .ok (.iload_n 1, 1) := by decide +kernel
theorem dX4_keep_29 : decode cX4_keep 29 = .ok (.bipush 8, 2) := by decide +kernel
theorem dX4_keep_31 : decode cX4_keep 31 = .ok (.ishr, 1) := by decide +kernel
theorem dX4_keep_32 : decode cX4_keep 32 = .ok (.sipush 255, 3) := by decide +kernel
theorem dX4_keep_35 : decode cX4_keep 35 = .ok (.iand, 1) := by decide +kernel
theorem dX4_keep_36 : decode cX4_keep 36 = .ok (.aload_n 3, 1) := by decide +kernel
theorem dX4_keep_37 : decode cX4_keep 37 = .ok (.aastore, 1) := by decide +kernel
theorem dX4_keep_38 : decode cX4_keep 38 = .ok (.aload_n 3, 1) := by decide +kernel
theorem dX4_keep_39 : decode cX4_keep 39 = .ok (.iload_n 1, 1) := by decide +kernel
theorem dX4_keep_40 : decode cX4_keep 40 = .ok (.sipush 255, 3) := by decide +kernel
theorem dX4_keep_43 : decode cX4_keep 43 = .ok (.iand, 1) := by decide +kernel
theorem dX4_keep_44 : decode cX4_keep 44 = .ok (.iload_n 2, 1) := by decide +kernel
theorem dX4_keep_45 : decode cX4_keep 45 = .ok (.ldc 17, 2) := by decide +kernel
theorem dX4_keep_47 : decode cX4_keep 47 = .ok (.iand, 1) := by decide +kernel
theorem dX4_keep_48 : decode cX4_keep 48 = .ok (.iastore, 1) := by decide +kernel
theorem dX4_keep_49 : decode cX4_keep 49 = .ok (.return_, 1) := by decide +kernel
theorem dX5_takesOneWord_0 : decode cX5_takesOneWord 0 = .ok (.aload_n 0, 1) := by decide +kernel
theorem dX5_takesOneWord_1 : decode cX5_takesOneWord 1 = .ok (.getfield 143, 3) := by decide +kernel
theorem dX5_takesOneWord_4 : decode cX5_takesOneWord 4 = .ok (.ldc 170, 2) := by decide +kernel
theorem dX5_takesOneWord_6 : decode cX5_takesOneWord 6 = .ok (.if_icmp .eq 7, 3) := by decide +kernel
theorem dX5_takesOneWord_9 : decode cX5_takesOneWord 9 = .ok (.iconst 1, 1) := by decide +kernel
theorem dX5_takesOneWord_10 : decode cX5_takesOneWord 10 = .ok (.goto 4, 3) := by decide +kernel
theorem dX5_takesOneWord_13 : decode cX5_takesOneWord 13 = .ok (.iconst 0, 1) := by decide +kernel
theorem dX5_takesOneWord_14 : decode cX5_takesOneWord 14 = .ok (.ireturn, 1) := by decide +kernel
theorem dX5_gives_0 : decode cX5_gives 0 = .ok (.iload_n 1, 1) := by decide +kernel
theorem dX5_gives_1 : decode cX5_gives 1 = .ok (.aload_n 0, 1) := by decide +kernel
theorem dX5_gives_2 : decode cX5_gives 2 = .ok (.getfield 147, 3) := by decide +kernel
theorem dX5_gives_5 : decode cX5_gives 5 = .ok (.iand, 1) := by decide +kernel
theorem dX5_gives_6 : decode cX5_gives 6 = .ok (.aload_n 0, 1) := by decide +kernel
theorem dX5_gives_7 : decode cX5_gives 7 = .ok (.getfield 143, 3) := by decide +kernel
theorem dX5_gives_10 : decode cX5_gives 10 = .ok (.if_icmp .ne 7, 3) := by decide +kernel
theorem dX5_gives_13 : decode cX5_gives 13 = .ok (.iconst 1, 1) := by decide +kernel
theorem dX5_gives_14 : decode cX5_gives 14 = .ok (.goto 4, 3) := by decide +kernel
theorem dX5_gives_17 : decode cX5_gives 17 = .ok (.iconst 0, 1) := by decide +kernel
theorem dX5_gives_18 : decode cX5_gives 18 = .ok (.ireturn, 1) := by decide +kernel
theorem dX6_init_0 : decode cX6_init 0 = .ok (.aload_n 0, 1) := by decide +kernel
theorem dX6_init_1 : decode cX6_init 1 = .ok (.invokespecial 3, 3) := by decide +kernel
theorem dX6_init_4 : decode cX6_init 4 = .ok (.aload_n 0, 1) := by decide +kernel
theorem dX6_init_5 : decode cX6_init 5 = .ok (.sipush 4000, 3) := by decide +kernel
theorem dX6_init_8 : decode cX6_init 8 = .ok (.newarray .byte, 2) := by decide +kernel
theorem dX6_init_10 : decode cX6_init 10 = .ok (.putfield 9, 3) := by decide +kernel
theorem dX6_init_13 : decode cX6_init 13 = .ok (.return_, 1) := by decide +kernel
theorem dX6_add_0 : decode cX6_add 0 = .ok (.aload_n 0, 1) := by decide +kernel
theorem dX6_add_1 : decode cX6_add 1 = .ok (.dup, 1) := by decide +kernel
theorem dX6_add_2 : decode cX6_add 2 = .ok (.getfield 15, 3) := by decide +kernel
theorem dX6_add_5 : decode cX6_add 5 = .ok (.iconst 1, 1) := by decide +kernel
theorem dX6_add_6 : decode cX6_add 6 = .ok (.iadd, 1) := by decide +kernel
theorem dX6_add_7 : decode cX6_add 7 = .ok (.putfield 15, 3) := by decide +kernel
theorem dX6_add_10 : decode cX6_add 10 = .ok (.aload_n 0, 1) := by decide +kernel
theorem dX6_add_11 : decode cX6_add 11 = .ok (.getfield 19, 3) := by decide +kernel
theorem dX6_add_14 : decode cX6_add 14 = .ok (.sipush 4000, 3) := by decide +kernel
theorem dX6_add_17 : decode cX6_add 17 = .ok (.if_icmp .ge 24, 3) := by decide +kernel
theorem dX6_add_20 : decode cX6_add 20 = .ok (.aload_n 0, 1) := by decide +kernel
theorem dX6_add_21 : decode cX6_add 21 = .ok (.getfield 9, 3) := by decide +kernel
theorem dX6_add_24 : decode cX6_add 24 = .ok (.aload_n 0, 1) := by decide +kernel
theorem dX6_add_25 : decode cX6_add 25 = .ok (.getfield 19, 3) := by decide +kernel
theorem dX6_add_28 : decode cX6_add 28 = .ok (.iload_n 1, 1) := by decide +kernel
theorem dX6_add_29 : decode cX6_add 29 = .ok (.i2b, 1) := by decide +kernel
theorem dX6_add_30 : decode cX6_add 30 = .ok (.bastore, 1) := by decide +kernel
theorem dX6_add_31 : decode cX6_add 31 = .ok (.aload_n 0, 1) := by decide +kernel
theorem dX6_add_32 : decode cX6_add 32 = .ok (.dup, 1) := by decide +kernel
theorem dX6_add_33 : decode cX6_add 33 = .ok (.getfield 19, 3) := by decide +kernel
theorem dX6_add_36 : decode cX6_add 36 = .ok (.iconst 1, 1) := by decide +kernel
theorem dX6_add_37 : decode cX6_add 37 = .ok (.iadd, 1) := by decide +kernel
theorem dX6_add_38 : decode cX6_add 38 = .ok (.putfield 19, 3) := by decide +kernel
theorem dX6_add_41 : decode cX6_add 41 = .ok (.return_, 1) := by decide +kernel
theorem dX6_byteAt_0 : decode cX6_byteAt 0 = .ok (.iload_n 1, 1) := by decide +kernel
theorem dX6_byteAt_1 : decode cX6_byteAt 1 = .ok (.ifCond .lt 24, 3) := by decide +kernel
theorem dX6_byteAt_4 : decode cX6_byteAt 4 = .ok (.iload_n 1, 1) := by decide +kernel
theorem dX6_byteAt_5 : decode cX6_byteAt 5 = .ok (.aload_n 0, 1) := by decide +kernel
theorem dX6_byteAt_6 : decode cX6_byteAt 6 = .ok (.getfield 19, 3) := by decide +kernel
theorem dX6_byteAt_9 : decode cX6_byteAt 9 = .ok (.if_icmp .ge 16, 3) := by decide +kernel
theorem dX6_byteAt_12 : decode cX6_byteAt 12 = .ok (.aload_n 0, 1) := by decide +kernel
theorem dX6_byteAt_13 : decode cX6_byteAt 13 = .ok (.getfield 9, 3) := by decide +kernel
theorem dX6_byteAt_16 : decode cX6_byteAt 16 = .ok (.iload_n 1, 1) := by decide +kernel
theorem dX6_byteAt_17 : decode cX6_byteAt 17 = .ok (.baload, 1) := by decide +kernel
theorem dX6_byteAt_18 : decode cX6_byteAt 18 = .ok (.sipush 255, 3) := by decide +kernel
theorem dX6_byteAt_21 : decode cX6_byteAt 21 = .ok (.iand, 1) := by decide +kernel
theorem dX6_byteAt_22 : decode cX6_byteAt 22 = .ok (.goto 4, 3) := by decide +kernel
theorem dX6_byteAt_25 : decode cX6_byteAt 25 = .ok (.iconst (-1), 1) := by decide +kernel
theorem dX6_byteAt_26 : decode cX6_byteAt 26 = .ok (.ireturn, 1) := by decide +kernel
theorem dX7_init_0 : decode cX7_init 0 = .ok (.aload_n 0, 1) := by decide +kernel
theorem dX7_init_1 : decode cX7_init 1 = .ok (.invokespecial 3, 3) := by decide +kernel
theorem dX7_init_4 : decode cX7_init 4 = .ok (.aload_n 0, 1) := by decide +kernel
theorem dX7_init_5 : decode cX7_init 5 = .ok (.sipush 4096, 3) := by decide +kernel
theorem dX7_init_8 : decode cX7_init 8 = .ok (.newarray .int, 2) := by decide +kernel
theorem dX7_init_10 : decode cX7_init 10 = .ok (.putfield 9, 3) := by decide +kernel
theorem dX7_init_13 : decode cX7_init 13 = .ok (.aload_n 0, 1) := by decide +kernel
theorem dX7_init_14 : decode cX7_init 14 = .ok (.sipush 200, 3) := by decide +kernel
theorem dX7_init_17 : decode cX7_init 17 = .ok (.newarray .int, 2) := by decide +kernel
theorem dX7_init_19 : decode cX7_init 19 = .ok (.putfield 15, 3) := by decide +kernel
theorem dX7_init_22 : decode cX7_init 22 = .ok (.return_, 1) := by decide +kernel
theorem dX7_hasRoom_0 : decode cX7_hasRoom 0 = .ok (.aload_n 0, 1) := by decide +kernel
theorem dX7_hasRoom_1 : decode cX7_hasRoom 1 = .ok (.getfield 18, 3) := by decide +kernel
theorem dX7_hasRoom_4 : decode cX7_hasRoom 4 = .ok (.iload_n 1, 1) := by decide +kernel
theorem dX7_hasRoom_5 : decode cX7_hasRoom 5 = .ok (.iadd, 1) := by decide +kernel
theorem dX7_hasRoom_6 : decode cX7_hasRoom 6 = .ok (.sipush 4096, 3) := by decide +kernel
theorem dX7_hasRoom_9 : decode cX7_hasRoom 9 = .ok (.if_icmp .gt 23, 3) := by decide +kernel
theorem dX7_hasRoom_12 : decode cX7_hasRoom 12 = .ok (.aload_n 0, 1) := by decide +kernel
theorem dX7_hasRoom_13 : decode cX7_hasRoom 13 = .ok (.getfield 22, 3) := by decide +kernel
theorem dX7_hasRoom_16 : decode cX7_hasRoom 16 = .ok (.aload_n 0, 1) := by decide +kernel
theorem dX7_hasRoom_17 : decode cX7_hasRoom 17 = .ok (.getfield 18, 3) := by decide +kernel
theorem dX7_hasRoom_20 : decode cX7_hasRoom 20 = .ok (.iadd, 1) := by decide +kernel
theorem dX7_hasRoom_21 : decode cX7_hasRoom 21 = .ok (.iload_n 1, 1) := by decide +kernel
theorem dX7_hasRoom_22 : decode cX7_hasRoom 22 = .ok (.iadd, 1) := by decide +kernel
theorem dX7_hasRoom_23 : decode cX7_hasRoom 23 = .ok (.ldc 25, 2) := by decide +kernel
theorem dX7_hasRoom_25 : decode cX7_hasRoom 25 = .ok (.if_icmp .gt 7, 3) := by decide +kernel
theorem dX7_hasRoom_28 : decode cX7_hasRoom 28 = .ok (.iconst 1, 1) := by decide +kernel
theorem dX7_hasRoom_29 : decode cX7_hasRoom 29 = .ok (.goto 4, 3) := by decide +kernel
theorem dX7_hasRoom_32 : decode cX7_hasRoom 32 = .ok (.iconst 0, 1) := by decide +kernel
theorem dX7_hasRoom_33 : decode cX7_hasRoom 33 = .ok (.ireturn, 1) := by decide +kernel
theorem dX7_add_0 : decode cX7_add 0 = .ok (.aload_n 0, 1) := by decide +kernel
theorem dX7_add_1 : decode cX7_add 1 = .ok (.getfield 18, 3) := by decide +kernel
theorem dX7_add_4 : decode cX7_add 4 = .ok (.sipush 4096, 3) := by decide +kernel
theorem dX7_add_7 : decode cX7_add 7 = .ok (.if_icmp .ge 26, 3) := by decide +kernel
theorem dX7_add_10 : decode cX7_add 10 = .ok (.aload_n 0, 1) := by decide +kernel
theorem dX7_add_11 : decode cX7_add 11 = .ok (.getfield 9, 3) := by decide +kernel
theorem dX7_add_14 : decode cX7_add 14 = .ok (.aload_n 0, 1) := by decide +kernel
theorem dX7_add_15 : decode cX7_add 15 = .ok (.getfield 18, 3) := by decide +kernel
theorem dX7_add_18 : decode cX7_add 18 = .ok (.iload_n 1, 1) := by decide +kernel
theorem dX7_add_19 : decode cX7_add 19 = .ok (.ldc 26, 2) := by decide +kernel
theorem dX7_add_21 : decode cX7_add 21 = .ok (.iand, 1) := by decide +kernel
theorem dX7_add_22 : decode cX7_add 22 = .ok (.iastore, 1) := by decide +kernel
theorem dX7_add_23 : decode cX7_add 23 = .ok (.aload_n 0, 1) := by decide +kernel
theorem dX7_add_24 : decode cX7_add 24 = .ok (.dup, 1) := by decide +kernel
theorem dX7_add_25 : decode cX7_add 25 = .ok (.getfield 18, 3) := by decide +kernel
theorem dX7_add_28 : decode cX7_add 28 = .ok (.iconst 1, 1) := by decide +kernel
theorem dX7_add_29 : decode cX7_add 29 = .ok (.iadd, 1) := by decide +kernel
theorem dX7_add_30 : decode cX7_add 30 = .ok (.putfield 18, 3) := by decide +kernel
theorem dX7_add_33 : decode cX7_add 33 = .ok (.return_, 1) := by decide +kernel
theorem dX7_here_0 : decode cX7_here 0 = .ok (.aload_n 0, 1) := by decide +kernel
theorem dX7_here_1 : decode cX7_here 1 = .ok (.getfield 22, 3) := by decide +kernel
theorem dX7_here_4 : decode cX7_here 4 = .ok (.aload_n 0, 1) := by decide +kernel
theorem dX7_here_5 : decode cX7_here 5 = .ok (.getfield 18, 3) := by decide +kernel
theorem dX7_here_8 : decode cX7_here 8 = .ok (.iadd, 1) := by decide +kernel
theorem dX7_here_9 : decode cX7_here 9 = .ok (.ireturn, 1) := by decide +kernel
theorem dX8_init_0 : decode cX8_init 0 = .ok (.aload_n 0, 1) := by decide +kernel
theorem dX8_init_1 : decode cX8_init 1 = .ok (.invokespecial 3, 3) := by decide +kernel
theorem dX8_init_4 : decode cX8_init 4 = .ok (.aload_n 0, 1) := by decide +kernel
theorem dX8_init_5 : decode cX8_init 5 = .ok (.aload_n 1, 1) := by decide +kernel
theorem dX8_init_6 : decode cX8_init 6 = .ok (.putfield 9, 3) := by decide +kernel
theorem dX8_init_9 : decode cX8_init 9 = .ok (.return_, 1) := by decide +kernel
theorem dX8_rewind_0 : decode cX8_rewind 0 = .ok (.aload_n 0, 1) := by decide +kernel
theorem dX8_rewind_1 : decode cX8_rewind 1 = .ok (.iconst 0, 1) := by decide +kernel
theorem dX8_rewind_2 : decode cX8_rewind 2 = .ok (.putfield 15, 3) := by decide +kernel
theorem dX8_rewind_5 : decode cX8_rewind 5 = .ok (.return_, 1) := by decide +kernel
theorem dX8_nextLine_0 : decode cX8_nextLine 0 = .ok (.aload_n 0, 1) := by decide +kernel
theorem dX8_nextLine_1 : decode cX8_nextLine 1 = .ok (.getfield 15, 3) := by decide +kernel
theorem dX8_nextLine_4 : decode cX8_nextLine 4 = .ok (.aload_n 0, 1) := by decide +kernel
theorem dX8_nextLine_5 : decode cX8_nextLine 5 = .ok (.getfield 9, 3) := by decide +kernel
theorem dX8_nextLine_8 : decode cX8_nextLine 8 = .ok (.getfield 19, 3) := by decide +kernel
theorem dX8_nextLine_11 : decode cX8_nextLine 11 = .ok (.if_icmp .lt 5, 3) := by decide +kernel
theorem dX8_nextLine_14 : decode cX8_nextLine 14 = .ok (.iconst 0, 1) := by decide +kernel
theorem dX8_nextLine_15 : decode cX8_nextLine 15 = .ok (.ireturn, 1) := by decide +kernel
theorem dX8_nextLine_16 : decode cX8_nextLine 16 = .ok (.aload_n 0, 1) := by decide +kernel
theorem dX8_nextLine_17 : decode cX8_nextLine 17 = .ok (.dup, 1) := by decide +kernel
theorem dX8_nextLine_18 : decode cX8_nextLine 18 = .ok (.getfield 15, 3) := by decide +kernel
theorem dX8_nextLine_21 : decode cX8_nextLine 21 = .ok (.iconst 1, 1) := by decide +kernel
theorem dX8_nextLine_22 : decode cX8_nextLine 22 = .ok (.iadd, 1) := by decide +kernel
theorem dX8_nextLine_23 : decode cX8_nextLine 23 = .ok (.putfield 15, 3) := by decide +kernel
