theorem dX11_init_0 : decode cX11_init 0 = .ok (.aload_n 0, 1) := by decide +kernel
theorem dX11_init_1 : decode cX11_init 1 = .ok (.invokespecial 1, 3) := by decide +kernel
theorem dX11_init_4 : decode cX11_init 4 = .ok (.aload_n 0, 1) := by decide +kernel
theorem dX11_init_5 : decode cX11_init 5 = .ok (.ldc 7, 2) := by decide +kernel
theorem dX11_init_7 : decode cX11_init 7 = .ok (.newarray .int, 2) := by decide +kernel
theorem dX11_init_9 : decode cX11_init 9 = .ok (.putfield 8, 3) := by decide +kernel
theorem dX11_init_12 : decode cX11_init 12 = .ok (.aload_n 0, 1) := by decide +kernel
theorem dX11_init_13 : decode cX11_init 13 = .ok (.bipush 8, 2) := by decide +kernel
theorem dX11_init_15 : decode cX11_init 15 = .ok (.newarray .int, 2) := by decide +kernel
theorem dX11_init_17 : decode cX11_init 17 = .ok (.putfield 14, 3) := by decide +kernel
theorem dX11_init_20 : decode cX11_init 20 = .ok (.aload_n 0, 1) := by decide +kernel
theorem dX11_init_21 : decode cX11_init 21 = .ok (.bipush 100, 2) := by decide +kernel
theorem dX11_init_23 : decode cX11_init 23 = .ok (.newarray .int, 2) := by decide +kernel
theorem dX11_init_25 : decode cX11_init 25 = .ok (.putfield 17, 3) := by decide +kernel
theorem dX11_init_28 : decode cX11_init 28 = .ok (.aload_n 0, 1) := by decide +kernel
theorem dX11_init_29 : decode cX11_init 29 = .ok (.sipush 4000, 3) := by decide +kernel
theorem dX11_init_32 : decode cX11_init 32 = .ok (.newarray .int, 2) := by decide +kernel
theorem dX11_init_34 : decode cX11_init 34 = .ok (.putfield 20, 3) := by decide +kernel
theorem dX11_init_37 : decode cX11_init 37 = .ok (.aload_n 0, 1) := by decide +kernel
theorem dX11_init_38 : decode cX11_init 38 = .ok (.sipush 4020, 3) := by decide +kernel
theorem dX11_init_41 : decode cX11_init 41 = .ok (.newarray .int, 2) := by decide +kernel
theorem dX11_init_43 : decode cX11_init 43 = .ok (.putfield 23, 3) := by decide +kernel
theorem dX11_init_46 : decode cX11_init 46 = .ok (.aload_n 0, 1) := by decide +kernel
theorem dX11_init_47 : decode cX11_init 47 = .ok (.sipush 4096, 3) := by decide +kernel
theorem dX11_init_50 : decode cX11_init 50 = .ok (.newarray .int, 2) := by decide +kernel
theorem dX11_init_52 : decode cX11_init 52 = .ok (.putfield 26, 3) := by decide +kernel
theorem dX11_init_55 : decode cX11_init 55 = .ok (.aload_n 0, 1) := by decide +kernel
theorem dX11_init_56 : decode cX11_init 56 = .ok (.sipush 200, 3) := by decide +kernel
theorem dX11_init_59 : decode cX11_init 59 = .ok (.newarray .int, 2) := by decide +kernel
theorem dX11_init_61 : decode cX11_init 61 = .ok (.putfield 29, 3) := by decide +kernel
theorem dX11_init_64 : decode cX11_init 64 = .ok (.aload_n 0, 1) := by decide +kernel
theorem dX11_init_65 : decode cX11_init 65 = .ok (.iconst (-1), 1) := by decide +kernel
theorem dX11_init_66 : decode cX11_init 66 = .ok (.putfield 32, 3) := by decide +kernel
theorem dX11_init_69 : decode cX11_init 69 = .ok (.aload_n 0, 1) := by decide +kernel
theorem dX11_init_70 : decode cX11_init 70 = .ok (.sipush 4096, 3) := by decide +kernel
theorem dX11_init_73 : decode cX11_init 73 = .ok (.newarray .int, 2) := by decide +kernel
theorem dX11_init_75 : decode cX11_init 75 = .ok (.putfield 36, 3) := by decide +kernel
theorem dX11_init_78 : decode cX11_init 78 = .ok (.aload_n 0, 1) := by decide +kernel
theorem dX11_init_79 : decode cX11_init 79 = .ok (.sipush 200, 3) := by decide +kernel
theorem dX11_init_82 : decode cX11_init 82 = .ok (.newarray .int, 2) := by decide +kernel
theorem dX11_init_84 : decode cX11_init 84 = .ok (.putfield 39, 3) := by decide +kernel
theorem dX11_init_87 : decode cX11_init 87 = .ok (.aload_n 0, 1) := by decide +kernel
theorem dX11_init_88 : decode cX11_init 88 = .ok (.sipush 200, 3) := by decide +kernel
theorem dX11_init_91 : decode cX11_init 91 = .ok (.newarray .int, 2) := by decide +kernel
theorem dX11_init_93 : decode cX11_init 93 = .ok (.putfield 42, 3) := by decide +kernel
theorem dX11_init_96 : decode cX11_init 96 = .ok (.aload_n 0, 1) := by decide +kernel
theorem dX11_init_97 : decode cX11_init 97 = .ok (.sipush 200, 3) := by decide +kernel
theorem dX11_init_100 : decode cX11_init 100 = .ok (.newarray .int, 2) := by decide +kernel
theorem dX11_init_102 : decode cX11_init 102 = .ok (.putfield 45, 3) := by decide +kernel
theorem dX11_init_105 : decode cX11_init 105 = .ok (.aload_n 0, 1) := by decide +kernel
theorem dX11_init_106 : decode cX11_init 106 = .ok (.bipush 40, 2) := by decide +kernel
theorem dX11_init_108 : decode cX11_init 108 = .ok (.newarray .int, 2) := by decide +kernel
theorem dX11_init_110 : decode cX11_init 110 = .ok (.putfield 48, 3) := by decide +kernel
theorem dX11_init_113 : decode cX11_init 113 = .ok (.aload_n 0, 1) := by decide +kernel
theorem dX11_init_114 : decode cX11_init 114 = .ok (.sipush 4000, 3) := by decide +kernel
theorem dX11_init_117 : decode cX11_init 117 = .ok (.newarray .int, 2) := by decide +kernel
theorem dX11_init_119 : decode cX11_init 119 = .ok (.putfield 51, 3) := by decide +kernel
theorem dX11_init_122 : decode cX11_init 122 = .ok (.aload_n 0, 1) := by decide +kernel
theorem dX11_init_123 : decode cX11_init 123 = .ok (.invokevirtual 54, 3) := by decide +kernel
theorem dX11_init_126 : decode cX11_init 126 = .ok (.aload_n 0, 1) := by decide +kernel
theorem dX11_init_127 : decode cX11_init 127 = .ok (.sipush 12288, 3) := by decide +kernel
theorem dX11_init_130 : decode cX11_init 130 = .ok (.putfield 57, 3) := by decide +kernel
theorem dX11_init_133 : decode cX11_init 133 = .ok (.return_, 1) := by decide +kernel
theorem dX11_thrown_0 : decode cX11_thrown 0 = .ok (.aload_n 0, 1) := by decide +kernel
theorem dX11_thrown_1 : decode cX11_thrown 1 = .ok (.getfield 60, 3) := by decide +kernel
theorem dX11_thrown_4 : decode cX11_thrown 4 = .ok (.ireturn, 1) := by decide +kernel
theorem dX11_first_0 : decode cX11_first 0 = .ok (.iconst 0, 1) := by decide +kernel
theorem dX11_first_1 : decode cX11_first 1 = .ok (.istore_n 1, 1) := by decide +kernel
theorem dX11_first_2 : decode cX11_first 2 = .ok (.iload_n 1, 1) := by decide +kernel
theorem dX11_first_3 : decode cX11_first 3 = .ok (.bipush 8, 2) := by decide +kernel
theorem dX11_first_5 : decode cX11_first 5 = .ok (.if_icmp .ge 16, 3) := by decide +kernel
theorem dX11_first_8 : decode cX11_first 8 = .ok (.aload_n 0, 1) := by decide +kernel
theorem dX11_first_9 : decode cX11_first 9 = .ok (.getfield 14, 3) := by decide +kernel
theorem dX11_first_12 : decode cX11_first 12 = .ok (.iload_n 1, 1) := by decide +kernel
theorem dX11_first_13 : decode cX11_first 13 = .ok (.iconst 0, 1) := by decide +kernel
theorem dX11_first_14 : decode cX11_first 14 = .ok (.iastore, 1) := by decide +kernel
theorem dX11_first_15 : decode cX11_first 15 = .ok (.iinc 1 1, 3) := by decide +kernel
theorem dX11_first_18 : decode cX11_first 18 = .ok (.goto (-16), 3) := by decide +kernel
theorem dX11_first_21 : decode cX11_first 21 = .ok (.aload_n 0, 1) := by decide +kernel
theorem dX11_first_22 : decode cX11_first 22 = .ok (.ldc 63, 2) := by decide +kernel
theorem dX11_first_24 : decode cX11_first 24 = .ok (.putfield 64, 3) := by decide +kernel
theorem dX11_first_27 : decode cX11_first 27 = .ok (.aload_n 0, 1) := by decide +kernel
theorem dX11_first_28 : decode cX11_first 28 = .ok (.sipush 12288, 3) := by decide +kernel
theorem dX11_first_31 : decode cX11_first 31 = .ok (.putfield 67, 3) := by decide +kernel
theorem dX11_first_34 : decode cX11_first 34 = .ok (.aload_n 0, 1) := by decide +kernel
theorem dX11_first_35 : decode cX11_first 35 = .ok (.ldc 70, 2) := by decide +kernel
theorem dX11_first_37 : decode cX11_first 37 = .ok (.putfield 71, 3) := by decide +kernel
theorem dX11_first_40 : decode cX11_first 40 = .ok (.aload_n 0, 1) := by decide +kernel
theorem dX11_first_41 : decode cX11_first 41 = .ok (.iconst 0, 1) := by decide +kernel
theorem dX11_first_42 : decode cX11_first 42 = .ok (.putfield 74, 3) := by decide +kernel
theorem dX11_first_45 : decode cX11_first 45 = .ok (.aload_n 0, 1) := by decide +kernel
theorem dX11_first_46 : decode cX11_first 46 = .ok (.iconst 0, 1) := by decide +kernel
theorem dX11_first_47 : decode cX11_first 47 = .ok (.putfield 77, 3) := by decide +kernel
theorem dX11_first_50 : decode cX11_first 50 = .ok (.aload_n 0, 1) := by decide +kernel
theorem dX11_first_51 : decode cX11_first 51 = .ok (.iconst 0, 1) := by decide +kernel
theorem dX11_first_52 : decode cX11_first 52 = .ok (.putfield 81, 3) := by decide +kernel
theorem dX11_first_55 : decode cX11_first 55 = .ok (.aload_n 0, 1) := by decide +kernel
theorem dX11_first_56 : decode cX11_first 56 = .ok (.iconst 0, 1) := by decide +kernel
theorem dX11_first_57 : decode cX11_first 57 = .ok (.putfield 84, 3) := by decide +kernel
theorem dX11_first_60 : decode cX11_first 60 = .ok (.return_, 1) := by decide +kernel
theorem dX11_cut_0 : decode cX11_cut 0 = .ok (.iload_n 0, 1) := by decide +kernel
theorem dX11_cut_1 : decode cX11_cut 1 = .ok (.ldc 87, 2) := by decide +kernel
theorem dX11_cut_3 : decode cX11_cut 3 = .ok (.iand, 1) := by decide +kernel
theorem dX11_cut_4 : decode cX11_cut 4 = .ok (.ireturn, 1) := by decide +kernel
theorem dX11_signed_0 : decode cX11_signed 0 = .ok (.iload_n 0, 1) := by decide +kernel
theorem dX11_signed_1 : decode cX11_signed 1 = .ok (.iconst 1, 1) := by decide +kernel
theorem dX11_signed_2 : decode cX11_signed 2 = .ok (.iload_n 1, 1) := by decide +kernel
theorem dX11_signed_3 : decode cX11_signed 3 = .ok (.ishl, 1) := by decide +kernel
theorem dX11_signed_4 : decode cX11_signed 4 = .ok (.iconst 1, 1) := by decide +kernel
theorem dX11_signed_5 : decode cX11_signed 5 = .ok (.isub, 1) := by decide +kernel
theorem dX11_signed_6 : decode cX11_signed 6 = .ok (.iand, 1) := by decide +kernel
theorem dX11_signed_7 : decode cX11_signed 7 = .ok (.istore_n 2, 1) := by decide +kernel
theorem dX11_signed_8 : decode cX11_signed 8 = .ok (.iload_n 2, 1) := by decide +kernel
theorem dX11_signed_9 : decode cX11_signed 9 = .ok (.iload_n 1, 1) := by decide +kernel
theorem dX11_signed_10 : decode cX11_signed 10 = .ok (.iconst 1, 1) := by decide +kernel
theorem dX11_signed_11 : decode cX11_signed 11 = .ok (.isub, 1) := by decide +kernel
theorem dX11_signed_12 : decode cX11_signed 12 = .ok (.ishr, 1) := by decide +kernel
theorem dX11_signed_13 : decode cX11_signed 13 = .ok (.iconst 1, 1) := by decide +kernel
theorem dX11_signed_14 : decode cX11_signed 14 = .ok (.if_icmp .ne 11, 3) := by decide +kernel
theorem dX11_signed_17 : decode cX11_signed 17 = .ok (.iload_n 2, 1) := by decide +kernel
theorem dX11_signed_18 : decode cX11_signed 18 = .ok (.iconst 1, 1) := by decide +kernel
theorem dX11_signed_19 : decode cX11_signed 19 = .ok (.iload_n 1, 1) := by decide +kernel
theorem dX11_signed_20 : decode cX11_signed 20 = .ok (.ishl, 1) := by decide +kernel
theorem dX11_signed_21 : decode cX11_signed 21 = .ok (.isub, 1) := by decide +kernel
theorem dX11_signed_22 : decode cX11_signed 22 = .ok (.goto 4, 3) := by decide +kernel
theorem dX11_signed_25 : decode cX11_signed 25 = .ok (.iload_n 2, 1) := by decide +kernel
theorem dX11_signed_26 : decode cX11_signed 26 = .ok (.ireturn, 1) := by decide +kernel
theorem dX11_isUser_0 : decode cX11_isUser 0 = .ok (.aload_n 0, 1) := by decide +kernel
theorem dX11_isUser_1 : decode cX11_isUser 1 = .ok (.getfield 64, 3) := by decide +kernel
theorem dX11_isUser_4 : decode cX11_isUser 4 = .ok (.ldc 88, 2) := by decide +kernel
theorem dX11_isUser_6 : decode cX11_isUser 6 = .ok (.if_icmp .lt 7, 3) := by decide +kernel
theorem dX11_isUser_9 : decode cX11_isUser 9 = .ok (.iconst 1, 1) := by decide +kernel
theorem dX11_isUser_10 : decode cX11_isUser 10 = .ok (.goto 4, 3) := by decide +kernel
theorem dX11_isUser_13 : decode cX11_isUser 13 = .ok (.iconst 0, 1) := by decide +kernel
theorem dX11_isUser_14 : decode cX11_isUser 14 = .ok (.ireturn, 1) := by decide +kernel
theorem dX11_seen_0 : decode cX11_seen 0 = .ok (.iload_n 1, 1) := by decide +kernel
theorem dX11_seen_1 : decode cX11_seen 1 = .ok (.ldc 70, 2) := by decide +kernel
theorem dX11_seen_3 : decode cX11_seen 3 = .ok (.if_icmp .ne 32, 3) := by decide +kernel
theorem dX11_seen_6 : decode cX11_seen 6 = .ok (.aload_n 0, 1) := by decide +kernel
theorem dX11_seen_7 : decode cX11_seen 7 = .ok (.getfield 84, 3) := by decide +kernel
theorem dX11_seen_10 : decode cX11_seen 10 = .ok (.ifCond .le 8, 3) := by decide +kernel
theorem dX11_seen_13 : decode cX11_seen 13 = .ok (.ldc 88, 2) := by decide +kernel
theorem dX11_seen_15 : decode cX11_seen 15 = .ok (.goto 4, 3) := by decide +kernel
theorem dX11_seen_18 : decode cX11_seen 18 = .ok (.iconst 0, 1) := by decide +kernel
theorem dX11_seen_19 : decode cX11_seen 19 = .ok (.aload_n 0, 1) := by decide +kernel
theorem dX11_seen_20 : decode cX11_seen 20 = .ok (.getfield 77, 3) := by decide +kernel
theorem dX11_seen_23 : decode cX11_seen 23 = .ok (.ifCond .eq 9, 3) := by decide +kernel
theorem dX11_seen_26 : decode cX11_seen 26 = .ok (.sipush 16384, 3) := by decide +kernel
theorem dX11_seen_29 : decode cX11_seen 29 = .ok (.goto 4, 3) := by decide +kernel
theorem dX11_seen_32 : decode cX11_seen 32 = .ok (.iconst 0, 1) := by decide +kernel
theorem dX11_seen_33 : decode cX11_seen 33 = .ok (.iadd, 1) := by decide +kernel
theorem dX11_seen_34 : decode cX11_seen 34 = .ok (.ireturn, 1) := by decide +kernel
theorem dX11_seen_35 : decode cX11_seen 35 = .ok (.iload_n 1, 1) := by decide +kernel
theorem dX11_seen_36 : decode cX11_seen 36 = .ok (.ldc 89, 2) := by decide +kernel
theorem dX11_seen_38 : decode cX11_seen 38 = .ok (.if_icmp .ne 24, 3) := by decide +kernel
theorem dX11_seen_41 : decode cX11_seen 41 = .ok (.aload_n 0, 1) := by decide +kernel
theorem dX11_seen_42 : decode cX11_seen 42 = .ok (.getfield 84, 3) := by decide +kernel
theorem dX11_seen_45 : decode cX11_seen 45 = .ok (.ifCond .le 12, 3) := by decide +kernel
theorem dX11_seen_48 : decode cX11_seen 48 = .ok (.aload_n 0, 1) := by decide +kernel
theorem dX11_seen_49 : decode cX11_seen 49 = .ok (.getfield 17, 3) := by decide +kernel
theorem dX11_seen_52 : decode cX11_seen 52 = .ok (.iconst 0, 1) := by decide +kernel
theorem dX11_seen_53 : decode cX11_seen 53 = .ok (.iaload, 1) := by decide +kernel
theorem dX11_seen_54 : decode cX11_seen 54 = .ok (.goto 7, 3) := by decide +kernel
theorem dX11_seen_57 : decode cX11_seen 57 = .ok (.aload_n 0, 1) := by decide +kernel
theorem dX11_seen_58 : decode cX11_seen 58 = .ok (.getfield 81, 3) := by decide +kernel
theorem dX11_seen_61 : decode cX11_seen 61 = .ok (.ireturn, 1) := by decide +kernel
theorem dX11_seen_62 : decode cX11_seen 62 = .ok (.iload_n 1, 1) := by decide +kernel
theorem dX11_seen_63 : decode cX11_seen 63 = .ok (.ldc 90, 2) := by decide +kernel
theorem dX11_seen_65 : decode cX11_seen 65 = .ok (.if_icmp .eq 9, 3) := by decide +kernel
theorem dX11_seen_68 : decode cX11_seen 68 = .ok (.iload_n 1, 1) := by decide +kernel
theorem dX11_seen_69 : decode cX11_seen 69 = .ok (.ldc 91, 2) := by decide +kernel
theorem dX11_seen_71 : decode cX11_seen 71 = .ok (.if_icmp .ne 6, 3) := by decide +kernel
theorem dX11_seen_74 : decode cX11_seen 74 = .ok (.ldc 88, 2) := by decide +kernel
theorem dX11_seen_76 : decode cX11_seen 76 = .ok (.ireturn, 1) := by decide +kernel
theorem dX11_seen_77 : decode cX11_seen 77 = .ok (.iload_n 1, 1) := by decide +kernel
theorem dX11_seen_78 : decode cX11_seen 78 = .ok (.ldc 92, 2) := by decide +kernel
theorem dX11_seen_80 : decode cX11_seen 80 = .ok (.if_icmp .ne 7, 3) := by decide +kernel
theorem dX11_seen_83 : decode cX11_seen 83 = .ok (.iconst 0, 1) := by decide +kernel
theorem dX11_seen_84 : decode cX11_seen 84 = .ok (.goto 9, 3) := by decide +kernel
theorem dX11_seen_87 : decode cX11_seen 87 = .ok (.aload_n 0, 1) := by decide +kernel
theorem dX11_seen_88 : decode cX11_seen 88 = .ok (.getfield 8, 3) := by decide +kernel
theorem dX11_seen_91 : decode cX11_seen 91 = .ok (.iload_n 1, 1) := by decide +kernel
theorem dX11_seen_92 : decode cX11_seen 92 = .ok (.iaload, 1) := by decide +kernel
theorem dX11_seen_93 : decode cX11_seen 93 = .ok (.ireturn, 1) := by decide +kernel
theorem dX11_takeKey_0 : decode cX11_takeKey 0 = .ok (.aload_n 0, 1) := by decide +kernel
theorem dX11_takeKey_1 : decode cX11_takeKey 1 = .ok (.getfield 17, 3) := by decide +kernel
theorem dX11_takeKey_4 : decode cX11_takeKey 4 = .ok (.iconst 0, 1) := by decide +kernel
theorem dX11_takeKey_5 : decode cX11_takeKey 5 = .ok (.iaload, 1) := by decide +kernel
theorem dX11_takeKey_6 : decode cX11_takeKey 6 = .ok (.istore_n 1, 1) := by decide +kernel
theorem dX11_takeKey_7 : decode cX11_takeKey 7 = .ok (.aload_n 0, 1) := by decide +kernel
theorem dX11_takeKey_8 : decode cX11_takeKey 8 = .ok (.dup, 1) := by decide +kernel
theorem dX11_takeKey_9 : decode cX11_takeKey 9 = .ok (.getfield 84, 3) := by decide +kernel
theorem dX11_takeKey_12 : decode cX11_takeKey 12 = .ok (.iconst 1, 1) := by decide +kernel
theorem dX11_takeKey_13 : decode cX11_takeKey 13 = .ok (.isub, 1) := by decide +kernel
theorem dX11_takeKey_14 : decode cX11_takeKey 14 = .ok (.putfield 84, 3) := by decide +kernel
theorem dX11_takeKey_17 : decode cX11_takeKey 17 = .ok (.iconst 0, 1) := by decide +kernel
theorem dX11_takeKey_18 : decode cX11_takeKey 18 = .ok (.istore_n 2, 1) := by decide +kernel
theorem dX11_takeKey_19 : decode cX11_takeKey 19 = .ok (.iload_n 2, 1) := by decide +kernel
theorem dX11_takeKey_20 : decode cX11_takeKey 20 = .ok (.aload_n 0, 1) := by decide +kernel
theorem dX11_takeKey_21 : decode cX11_takeKey 21 = .ok (.getfield 84, 3) := by decide +kernel
theorem dX11_takeKey_24 : decode cX11_takeKey 24 = .ok (.if_icmp .ge 23, 3) := by decide +kernel
theorem dX11_takeKey_27 : decode cX11_takeKey 27 = .ok (.aload_n 0, 1) := by decide +kernel
theorem dX11_takeKey_28 : decode cX11_takeKey 28 = .ok (.getfield 17, 3) := by decide +kernel
theorem dX11_takeKey_31 : decode cX11_takeKey 31 = .ok (.iload_n 2, 1) := by decide +kernel
theorem dX11_takeKey_32 : decode cX11_takeKey 32 = .ok (.aload_n 0, 1) := by decide +kernel
theorem dX11_takeKey_33 : decode cX11_takeKey 33 = .ok (.getfield 17, 3) := by decide +kernel
theorem dX11_takeKey_36 : decode cX11_takeKey 36 = .ok (.iload_n 2, 1) := by decide +kernel
theorem dX11_takeKey_37 : decode cX11_takeKey 37 = .ok (.iconst 1, 1) := by decide +kernel
theorem dX11_takeKey_38 : decode cX11_takeKey 38 = .ok (.iadd, 1) := by decide +kernel
theorem dX11_takeKey_39 : decode cX11_takeKey 39 = .ok (.iaload, 1) := by decide +kernel
theorem dX11_takeKey_40 : decode cX11_takeKey 40 = .ok (.iastore, 1) := by decide +kernel
theorem dX11_takeKey_41 : decode cX11_takeKey 41 = .ok (.iinc 2 1, 3) := by decide +kernel
theorem dX11_takeKey_44 : decode cX11_takeKey 44 = .ok (.goto (-25), 3) := by decide +kernel
theorem dX11_takeKey_47 : decode cX11_takeKey 47 = .ok (.iload_n 1, 1) := by decide +kernel
theorem dX11_takeKey_48 : decode cX11_takeKey 48 = .ok (.ireturn, 1) := by decide +kernel
theorem dX11_get_0 : decode cX11_get 0 = .ok (.iload_n 1, 1) := by decide +kernel
theorem dX11_get_1 : decode cX11_get 1 = .ok (.invokestatic 93, 3) := by decide +kernel
theorem dX11_get_4 : decode cX11_get 4 = .ok (.istore_n 2, 1) := by decide +kernel
theorem dX11_get_5 : decode cX11_get 5 = .ok (.aload_n 0, 1) := by decide +kernel
theorem dX11_get_6 : decode cX11_get 6 = .ok (.iload_n 2, 1) := by decide +kernel
theorem dX11_get_7 : decode cX11_get 7 = .ok (.invokevirtual 97, 3) := by decide +kernel
theorem dX11_get_10 : decode cX11_get 10 = .ok (.istore_n 3, 1) := by decide +kernel
theorem dX11_get_11 : decode cX11_get 11 = .ok (.iload_n 2, 1) := by decide +kernel
theorem dX11_get_12 : decode cX11_get 12 = .ok (.ldc 89, 2) := by decide +kernel
theorem dX11_get_14 : decode cX11_get 14 = .ok (.if_icmp .ne 23, 3) := by decide +kernel
theorem dX11_get_17 : decode cX11_get 17 = .ok (.aload_n 0, 1) := by decide +kernel
theorem dX11_get_18 : decode cX11_get 18 = .ok (.iload_n 3, 1) := by decide +kernel
theorem dX11_get_19 : decode cX11_get 19 = .ok (.putfield 81, 3) := by decide +kernel
theorem dX11_get_22 : decode cX11_get 22 = .ok (.aload_n 0, 1) := by decide +kernel
theorem dX11_get_23 : decode cX11_get 23 = .ok (.getfield 84, 3) := by decide +kernel
theorem dX11_get_26 : decode cX11_get 26 = .ok (.ifCond .le 11, 3) := by decide +kernel
theorem dX11_get_29 : decode cX11_get 29 = .ok (.aload_n 0, 1) := by decide +kernel
theorem dX11_get_30 : decode cX11_get 30 = .ok (.aload_n 0, 1) := by decide +kernel
theorem dX11_get_31 : decode cX11_get 31 = .ok (.invokevirtual 100, 3) := by decide +kernel
theorem dX11_get_34 : decode cX11_get 34 = .ok (.putfield 81, 3) := by decide +kernel
theorem dX11_get_37 : decode cX11_get 37 = .ok (.iload_n 3, 1) := by decide +kernel
theorem dX11_get_38 : decode cX11_get 38 = .ok (.ireturn, 1) := by decide +kernel
theorem dX11_put_0 : decode cX11_put 0 = .ok (.iload_n 1, 1) := by decide +kernel
theorem dX11_put_1 : decode cX11_put 1 = .ok (.invokestatic 93, 3) := by decide +kernel
theorem dX11_put_4 : decode cX11_put 4 = .ok (.istore_n 3, 1) := by decide +kernel
theorem dX11_put_5 : decode cX11_put 5 = .ok (.iload_n 3, 1) := by decide +kernel
theorem dX11_put_6 : decode cX11_put 6 = .ok (.ldc 70, 2) := by decide +kernel
theorem dX11_put_8 : decode cX11_put 8 = .ok (.if_icmp .ne 25, 3) := by decide +kernel
theorem dX11_put_11 : decode cX11_put 11 = .ok (.aload_n 0, 1) := by decide +kernel
theorem dX11_put_12 : decode cX11_put 12 = .ok (.iload_n 2, 1) := by decide +kernel
theorem dX11_put_13 : decode cX11_put 13 = .ok (.bipush 14, 2) := by decide +kernel
theorem dX11_put_15 : decode cX11_put 15 = .ok (.ishr, 1) := by decide +kernel
theorem dX11_put_16 : decode cX11_put 16 = .ok (.iconst 1, 1) := by decide +kernel
theorem dX11_put_17 : decode cX11_put 17 = .ok (.iand, 1) := by decide +kernel
theorem dX11_put_18 : decode cX11_put 18 = .ok (.iconst 1, 1) := by decide +kernel
theorem dX11_put_19 : decode cX11_put 19 = .ok (.if_icmp .ne 7, 3) := by decide +kernel
theorem dX11_put_22 : decode cX11_put 22 = .ok (.iconst 1, 1) := by decide +kernel
theorem dX11_put_23 : decode cX11_put 23 = .ok (.goto 4, 3) := by decide +kernel
theorem dX11_put_26 : decode cX11_put 26 = .ok (.iconst 0, 1) := by decide +kernel
theorem dX11_put_27 : decode cX11_put 27 = .ok (.putfield 77, 3) := by decide +kernel
theorem dX11_put_30 : decode cX11_put 30 = .ok (.goto 70, 3) := by decide +kernel
theorem dX11_put_33 : decode cX11_put 33 = .ok (.iload_n 3, 1) := by decide +kernel
theorem dX11_put_34 : decode cX11_put 34 = .ok (.ldc 92, 2) := by decide +kernel
theorem dX11_put_36 : decode cX11_put 36 = .ok (.if_icmp .ne 15, 3) := by decide +kernel
theorem dX11_put_39 : decode cX11_put 39 = .ok (.aload_n 0, 1) := by decide +kernel
theorem dX11_put_40 : decode cX11_put 40 = .ok (.iload_n 2, 1) := by decide +kernel
theorem dX11_put_41 : decode cX11_put 41 = .ok (.sipush 255, 3) := by decide +kernel
theorem dX11_put_44 : decode cX11_put 44 = .ok (.iand, 1) := by decide +kernel
theorem dX11_put_45 : decode cX11_put 45 = .ok (.invokevirtual 104, 3) := by decide +kernel
theorem dX11_put_48 : decode cX11_put 48 = .ok (.goto 52, 3) := by decide +kernel
theorem dX11_put_51 : decode cX11_put 51 = .ok (.iload_n 3, 1) := by decide +kernel
theorem dX11_put_52 : decode cX11_put 52 = .ok (.ldc 91, 2) := by decide +kernel
theorem dX11_put_54 : decode cX11_put 54 = .ok (.if_icmp .ne 27, 3) := by decide +kernel
theorem dX11_put_57 : decode cX11_put 57 = .ok (.aload_n 0, 1) := by decide +kernel
theorem dX11_put_58 : decode cX11_put 58 = .ok (.iload_n 2, 1) := by decide +kernel
theorem dX11_put_59 : decode cX11_put 59 = .ok (.bipush 15, 2) := by decide +kernel
theorem dX11_put_61 : decode cX11_put 61 = .ok (.ishr, 1) := by decide +kernel
theorem dX11_put_62 : decode cX11_put 62 = .ok (.iconst 1, 1) := by decide +kernel
theorem dX11_put_63 : decode cX11_put 63 = .ok (.iand, 1) := by decide +kernel
theorem dX11_put_64 : decode cX11_put 64 = .ok (.ifCond .ne 7, 3) := by decide +kernel
theorem dX11_put_67 : decode cX11_put 67 = .ok (.iconst 1, 1) := by decide +kernel
theorem dX11_put_68 : decode cX11_put 68 = .ok (.goto 7, 3) := by decide +kernel
theorem dX11_put_71 : decode cX11_put 71 = .ok (.aload_n 0, 1) := by decide +kernel
theorem dX11_put_72 : decode cX11_put 72 = .ok (.getfield 74, 3) := by decide +kernel
theorem dX11_put_75 : decode cX11_put 75 = .ok (.putfield 74, 3) := by decide +kernel
theorem dX11_put_78 : decode cX11_put 78 = .ok (.goto 22, 3) := by decide +kernel
theorem dX11_put_81 : decode cX11_put 81 = .ok (.iload_n 3, 1) := by decide +kernel
theorem dX11_put_82 : decode cX11_put 82 = .ok (.ldc 89, 2) := by decide +kernel
theorem dX11_put_84 : decode cX11_put 84 = .ok (.if_icmp .eq 16, 3) := by decide +kernel
theorem dX11_put_87 : decode cX11_put 87 = .ok (.iload_n 3, 1) := by decide +kernel
theorem dX11_put_88 : decode cX11_put 88 = .ok (.ldc 90, 2) := by decide +kernel
theorem dX11_put_90 : decode cX11_put 90 = .ok (.if_icmp .eq 10, 3) := by decide +kernel
theorem dX11_put_93 : decode cX11_put 93 = .ok (.aload_n 0, 1) := by decide +kernel
theorem dX11_put_94 : decode cX11_put 94 = .ok (.getfield 8, 3) := by decide +kernel
theorem dX11_put_97 : decode cX11_put 97 = .ok (.iload_n 3, 1) := by decide +kernel
theorem dX11_put_98 : decode cX11_put 98 = .ok (.iload_n 2, 1) := by decide +kernel
theorem dX11_put_99 : decode cX11_put 99 = .ok (.iastore, 1) := by decide +kernel
theorem dX11_put_100 : decode cX11_put 100 = .ok (.return_, 1) := by decide +kernel
theorem dX11_prints_0 : decode cX11_prints 0 = .ok (.aload_n 0, 1) := by decide +kernel
theorem dX11_prints_1 : decode cX11_prints 1 = .ok (.getfield 107, 3) := by decide +kernel
theorem dX11_prints_4 : decode cX11_prints 4 = .ok (.sipush 4000, 3) := by decide +kernel
theorem dX11_prints_7 : decode cX11_prints 7 = .ok (.if_icmp .ge 23, 3) := by decide +kernel
theorem dX11_prints_10 : decode cX11_prints 10 = .ok (.aload_n 0, 1) := by decide +kernel
theorem dX11_prints_11 : decode cX11_prints 11 = .ok (.getfield 20, 3) := by decide +kernel
theorem dX11_prints_14 : decode cX11_prints 14 = .ok (.aload_n 0, 1) := by decide +kernel
theorem dX11_prints_15 : decode cX11_prints 15 = .ok (.getfield 107, 3) := by decide +kernel
theorem dX11_prints_18 : decode cX11_prints 18 = .ok (.iload_n 1, 1) := by decide +kernel
theorem dX11_prints_19 : decode cX11_prints 19 = .ok (.iastore, 1) := by decide +kernel
theorem dX11_prints_20 : decode cX11_prints 20 = .ok (.aload_n 0, 1) := by decide +kernel
theorem dX11_prints_21 : decode cX11_prints 21 = .ok (.dup, 1) := by decide +kernel
theorem dX11_prints_22 : decode cX11_prints 22 = .ok (.getfield 107, 3) := by decide +kernel
theorem dX11_prints_25 : decode cX11_prints 25 = .ok (.iconst 1, 1) := by decide +kernel
theorem dX11_prints_26 : decode cX11_prints 26 = .ok (.iadd, 1) := by decide +kernel
theorem dX11_prints_27 : decode cX11_prints 27 = .ok (.putfield 107, 3) := by decide +kernel
theorem dX11_prints_30 : decode cX11_prints 30 = .ok (.aload_n 0, 1) := by decide +kernel
theorem dX11_prints_31 : decode cX11_prints 31 = .ok (.dup, 1) := by decide +kernel
theorem dX11_prints_32 : decode cX11_prints 32 = .ok (.getfield 110, 3) := by decide +kernel
theorem dX11_prints_35 : decode cX11_prints 35 = .ok (.iconst 1, 1) := by decide +kernel
theorem dX11_prints_36 : decode cX11_prints 36 = .ok (.iadd, 1) := by decide +kernel
theorem dX11_prints_37 : decode cX11_prints 37 = .ok (.putfield 110, 3) := by decide +kernel
theorem dX11_prints_40 : decode cX11_prints 40 = .ok (.return_, 1) := by decide +kernel
theorem dX11_isOut_0 : decode cX11_isOut 0 = .ok (.iload_n 1, 1) := by decide +kernel
theorem dX11_isOut_1 : decode cX11_isOut 1 = .ok (.invokestatic 93, 3) := by decide +kernel
theorem dX11_isOut_4 : decode cX11_isOut 4 = .ok (.istore_n 2, 1) := by decide +kernel
theorem dX11_isOut_5 : decode cX11_isOut 5 = .ok (.aload_n 0, 1) := by decide +kernel
theorem dX11_isOut_6 : decode cX11_isOut 6 = .ok (.invokevirtual 113, 3) := by decide +kernel
theorem dX11_isOut_9 : decode cX11_isOut 9 = .ok (.ifCond .eq 20, 3) := by decide +kernel
theorem dX11_isOut_12 : decode cX11_isOut 12 = .ok (.iload_n 2, 1) := by decide +kernel
theorem dX11_isOut_13 : decode cX11_isOut 13 = .ok (.sipush 12288, 3) := by decide +kernel
theorem dX11_isOut_16 : decode cX11_isOut 16 = .ok (.if_icmp .lt 9, 3) := by decide +kernel
theorem dX11_isOut_19 : decode cX11_isOut 19 = .ok (.iload_n 2, 1) := by decide +kernel
theorem dX11_isOut_20 : decode cX11_isOut 20 = .ok (.ldc 70, 2) := by decide +kernel
theorem dX11_isOut_22 : decode cX11_isOut 22 = .ok (.if_icmp .lt 7, 3) := by decide +kernel
theorem dX11_isOut_25 : decode cX11_isOut 25 = .ok (.iconst 1, 1) := by decide +kernel
theorem dX11_isOut_26 : decode cX11_isOut 26 = .ok (.goto 4, 3) := by decide +kernel
theorem dX11_isOut_29 : decode cX11_isOut 29 = .ok (.iconst 0, 1) := by decide +kernel
theorem dX11_isOut_30 : decode cX11_isOut 30 = .ok (.ireturn, 1) := by decide +kernel
theorem dX11_read_0 : decode cX11_read 0 = .ok (.aload_n 0, 1) := by decide +kernel
theorem dX11_read_1 : decode cX11_read 1 = .ok (.aload_n 0, 1) := by decide +kernel
theorem dX11_read_2 : decode cX11_read 2 = .ok (.getfield 117, 3) := by decide +kernel
theorem dX11_read_5 : decode cX11_read 5 = .ok (.ifCond .ne 11, 3) := by decide +kernel
theorem dX11_read_8 : decode cX11_read 8 = .ok (.aload_n 0, 1) := by decide +kernel
theorem dX11_read_9 : decode cX11_read 9 = .ok (.iload_n 1, 1) := by decide +kernel
theorem dX11_read_10 : decode cX11_read 10 = .ok (.invokevirtual 120, 3) := by decide +kernel
theorem dX11_read_13 : decode cX11_read 13 = .ok (.ifCond .eq 7, 3) := by decide +kernel
theorem dX11_read_16 : decode cX11_read 16 = .ok (.iconst 1, 1) := by decide +kernel
theorem dX11_read_17 : decode cX11_read 17 = .ok (.goto 4, 3) := by decide +kernel
theorem dX11_read_20 : decode cX11_read 20 = .ok (.iconst 0, 1) := by decide +kernel
theorem dX11_read_21 : decode cX11_read 21 = .ok (.putfield 117, 3) := by decide +kernel
theorem dX11_read_24 : decode cX11_read 24 = .ok (.aload_n 0, 1) := by decide +kernel
theorem dX11_read_25 : decode cX11_read 25 = .ok (.getfield 117, 3) := by decide +kernel
theorem dX11_read_28 : decode cX11_read 28 = .ok (.ifCond .eq 7, 3) := by decide +kernel
theorem dX11_read_31 : decode cX11_read 31 = .ok (.iconst 0, 1) := by decide +kernel
theorem dX11_read_32 : decode cX11_read 32 = .ok (.goto 8, 3) := by decide +kernel
theorem dX11_read_35 : decode cX11_read 35 = .ok (.aload_n 0, 1) := by decide +kernel
theorem dX11_read_36 : decode cX11_read 36 = .ok (.iload_n 1, 1) := by decide +kernel
theorem dX11_read_37 : decode cX11_read 37 = .ok (.invokevirtual 124, 3) := by decide +kernel
theorem dX11_read_40 : decode cX11_read 40 = .ok (.ireturn, 1) := by decide +kernel
theorem dX11_writes_0 : decode cX11_writes 0 = .ok (.aload_n 0, 1) := by decide +kernel
theorem dX11_writes_1 : decode cX11_writes 1 = .ok (.aload_n 0, 1) := by decide +kernel
theorem dX11_writes_2 : decode cX11_writes 2 = .ok (.getfield 117, 3) := by decide +kernel
theorem dX11_writes_5 : decode cX11_writes 5 = .ok (.ifCond .ne 11, 3) := by decide +kernel
theorem dX11_writes_8 : decode cX11_writes 8 = .ok (.aload_n 0, 1) := by decide +kernel
theorem dX11_writes_9 : decode cX11_writes 9 = .ok (.iload_n 1, 1) := by decide +kernel
theorem dX11_writes_10 : decode cX11_writes 10 = .ok (.invokevirtual 120, 3) := by decide +kernel
theorem dX11_writes_13 : decode cX11_writes 13 = .ok (.ifCond .eq 7, 3) := by decide +kernel
theorem dX11_writes_16 : decode cX11_writes 16 = .ok (.iconst 1, 1) := by decide +kernel
theorem dX11_writes_17 : decode cX11_writes 17 = .ok (.goto 4, 3) := by decide +kernel
theorem dX11_writes_20 : decode cX11_writes 20 = .ok (.iconst 0, 1) := by decide +kernel
theorem dX11_writes_21 : decode cX11_writes 21 = .ok (.putfield 117, 3) := by decide +kernel
theorem dX11_writes_24 : decode cX11_writes 24 = .ok (.aload_n 0, 1) := by decide +kernel
theorem dX11_writes_25 : decode cX11_writes 25 = .ok (.getfield 117, 3) := by decide +kernel
theorem dX11_writes_28 : decode cX11_writes 28 = .ok (.ifCond .ne 9, 3) := by decide +kernel
theorem dX11_writes_31 : decode cX11_writes 31 = .ok (.aload_n 0, 1) := by decide +kernel
theorem dX11_writes_32 : decode cX11_writes 32 = .ok (.iload_n 1, 1) := by decide +kernel
theorem dX11_writes_33 : decode cX11_writes 33 = .ok (.iload_n 2, 1) := by decide +kernel
theorem dX11_writes_34 : decode cX11_writes 34 = .ok (.invokevirtual 127, 3) := by decide +kernel
theorem dX11_writes_37 : decode cX11_writes 37 = .ok (.return_, 1) := by decide +kernel
theorem dX11_comes_0 : decode cX11_comes 0 = .ok (.aload_n 0, 1) := by decide +kernel
theorem dX11_comes_1 : decode cX11_comes 1 = .ok (.getfield 117, 3) := by decide +kernel
theorem dX11_comes_4 : decode cX11_comes 4 = .ok (.ifCond .eq 4, 3) := by decide +kernel
theorem dX11_comes_7 : decode cX11_comes 7 = .ok (.return_, 1) := by decide +kernel
theorem dX11_comes_8 : decode cX11_comes 8 = .ok (.aload_n 0, 1) := by decide +kernel
theorem dX11_comes_9 : decode cX11_comes 9 = .ok (.getfield 14, 3) := by decide +kernel
theorem dX11_comes_12 : decode cX11_comes 12 = .ok (.iload_n 1, 1) := by decide +kernel
theorem dX11_comes_13 : decode cX11_comes 13 = .ok (.iload_n 2, 1) := by decide +kernel
theorem dX11_comes_14 : decode cX11_comes 14 = .ok (.invokestatic 93, 3) := by decide +kernel
theorem dX11_comes_17 : decode cX11_comes 17 = .ok (.iastore, 1) := by decide +kernel
theorem dX11_comes_18 : decode cX11_comes 18 = .ok (.aload_n 0, 1) := by decide +kernel
theorem dX11_comes_19 : decode cX11_comes 19 = .ok (.aload_n 0, 1) := by decide +kernel
theorem dX11_comes_20 : decode cX11_comes 20 = .ok (.getfield 64, 3) := by decide +kernel
theorem dX11_comes_23 : decode cX11_comes 23 = .ok (.ldc 131, 2) := by decide +kernel
theorem dX11_comes_25 : decode cX11_comes 25 = .ok (.iand, 1) := by decide +kernel
theorem dX11_comes_26 : decode cX11_comes 26 = .ok (.aload_n 0, 1) := by decide +kernel
theorem dX11_comes_27 : decode cX11_comes 27 = .ok (.getfield 14, 3) := by decide +kernel
theorem dX11_comes_30 : decode cX11_comes 30 = .ok (.iload_n 1, 1) := by decide +kernel
theorem dX11_comes_31 : decode cX11_comes 31 = .ok (.iaload, 1) := by decide +kernel
theorem dX11_comes_32 : decode cX11_comes 32 = .ok (.ldc 88, 2) := by decide +kernel
theorem dX11_comes_34 : decode cX11_comes 34 = .ok (.if_icmp .lt 7, 3) := by decide +kernel
theorem dX11_comes_37 : decode cX11_comes 37 = .ok (.iconst 4, 1) := by decide +kernel
theorem dX11_comes_38 : decode cX11_comes 38 = .ok (.goto 17, 3) := by decide +kernel
theorem dX11_comes_41 : decode cX11_comes 41 = .ok (.aload_n 0, 1) := by decide +kernel
theorem dX11_comes_42 : decode cX11_comes 42 = .ok (.getfield 14, 3) := by decide +kernel
theorem dX11_comes_45 : decode cX11_comes 45 = .ok (.iload_n 1, 1) := by decide +kernel
theorem dX11_comes_46 : decode cX11_comes 46 = .ok (.iaload, 1) := by decide +kernel
theorem dX11_comes_47 : decode cX11_comes 47 = .ok (.ifCond .ne 7, 3) := by decide +kernel
theorem dX11_comes_50 : decode cX11_comes 50 = .ok (.iconst 2, 1) := by decide +kernel
theorem dX11_comes_51 : decode cX11_comes 51 = .ok (.goto 4, 3) := by decide +kernel
theorem dX11_comes_54 : decode cX11_comes 54 = .ok (.iconst 1, 1) := by decide +kernel
theorem dX11_comes_55 : decode cX11_comes 55 = .ok (.ior, 1) := by decide +kernel
theorem dX11_comes_56 : decode cX11_comes 56 = .ok (.putfield 64, 3) := by decide +kernel
theorem dX11_comes_59 : decode cX11_comes 59 = .ok (.return_, 1) := by decide +kernel
theorem dX11_goIn_0 : decode cX11_goIn 0 = .ok (.aload_n 0, 1) := by decide +kernel
theorem dX11_goIn_1 : decode cX11_goIn 1 = .ok (.getfield 64, 3) := by decide +kernel
theorem dX11_goIn_4 : decode cX11_goIn 4 = .ok (.istore_n 1, 1) := by decide +kernel
theorem dX11_goIn_5 : decode cX11_goIn 5 = .ok (.aload_n 0, 1) := by decide +kernel
theorem dX11_goIn_6 : decode cX11_goIn 6 = .ok (.invokevirtual 113, 3) := by decide +kernel
theorem dX11_goIn_9 : decode cX11_goIn 9 = .ok (.ifCond .eq 25, 3) := by decide +kernel
theorem dX11_goIn_12 : decode cX11_goIn 12 = .ok (.aload_n 0, 1) := by decide +kernel
theorem dX11_goIn_13 : decode cX11_goIn 13 = .ok (.aload_n 0, 1) := by decide +kernel
theorem dX11_goIn_14 : decode cX11_goIn 14 = .ok (.getfield 14, 3) := by decide +kernel
theorem dX11_goIn_17 : decode cX11_goIn 17 = .ok (.bipush 6, 2) := by decide +kernel
theorem dX11_goIn_19 : decode cX11_goIn 19 = .ok (.iaload, 1) := by decide +kernel
theorem dX11_goIn_20 : decode cX11_goIn 20 = .ok (.putfield 71, 3) := by decide +kernel
theorem dX11_goIn_23 : decode cX11_goIn 23 = .ok (.aload_n 0, 1) := by decide +kernel
theorem dX11_goIn_24 : decode cX11_goIn 24 = .ok (.getfield 14, 3) := by decide +kernel
theorem dX11_goIn_27 : decode cX11_goIn 27 = .ok (.bipush 6, 2) := by decide +kernel
theorem dX11_goIn_29 : decode cX11_goIn 29 = .ok (.aload_n 0, 1) := by decide +kernel
theorem dX11_goIn_30 : decode cX11_goIn 30 = .ok (.getfield 67, 3) := by decide +kernel
theorem dX11_goIn_33 : decode cX11_goIn 33 = .ok (.iastore, 1) := by decide +kernel
theorem dX11_goIn_34 : decode cX11_goIn 34 = .ok (.aload_n 0, 1) := by decide +kernel
theorem dX11_goIn_35 : decode cX11_goIn 35 = .ok (.aload_n 0, 1) := by decide +kernel
theorem dX11_goIn_36 : decode cX11_goIn 36 = .ok (.getfield 64, 3) := by decide +kernel
theorem dX11_goIn_39 : decode cX11_goIn 39 = .ok (.sipush 32767, 3) := by decide +kernel
theorem dX11_goIn_42 : decode cX11_goIn 42 = .ok (.iand, 1) := by decide +kernel
theorem dX11_goIn_43 : decode cX11_goIn 43 = .ok (.putfield 64, 3) := by decide +kernel
theorem dX11_goIn_46 : decode cX11_goIn 46 = .ok (.aload_n 0, 1) := by decide +kernel
theorem dX11_goIn_47 : decode cX11_goIn 47 = .ok (.getfield 14, 3) := by decide +kernel
theorem dX11_goIn_50 : decode cX11_goIn 50 = .ok (.bipush 6, 2) := by decide +kernel
theorem dX11_goIn_52 : decode cX11_goIn 52 = .ok (.aload_n 0, 1) := by decide +kernel
theorem dX11_goIn_53 : decode cX11_goIn 53 = .ok (.getfield 14, 3) := by decide +kernel
theorem dX11_goIn_56 : decode cX11_goIn 56 = .ok (.bipush 6, 2) := by decide +kernel
theorem dX11_goIn_58 : decode cX11_goIn 58 = .ok (.iaload, 1) := by decide +kernel
theorem dX11_goIn_59 : decode cX11_goIn 59 = .ok (.iconst 1, 1) := by decide +kernel
theorem dX11_goIn_60 : decode cX11_goIn 60 = .ok (.isub, 1) := by decide +kernel
theorem dX11_goIn_61 : decode cX11_goIn 61 = .ok (.invokestatic 93, 3) := by decide +kernel
theorem dX11_goIn_64 : decode cX11_goIn 64 = .ok (.iastore, 1) := by decide +kernel
theorem dX11_goIn_65 : decode cX11_goIn 65 = .ok (.aload_n 0, 1) := by decide +kernel
theorem dX11_goIn_66 : decode cX11_goIn 66 = .ok (.aload_n 0, 1) := by decide +kernel
theorem dX11_goIn_67 : decode cX11_goIn 67 = .ok (.getfield 14, 3) := by decide +kernel
theorem dX11_goIn_70 : decode cX11_goIn 70 = .ok (.bipush 6, 2) := by decide +kernel
theorem dX11_goIn_72 : decode cX11_goIn 72 = .ok (.iaload, 1) := by decide +kernel
theorem dX11_goIn_73 : decode cX11_goIn 73 = .ok (.iload_n 1, 1) := by decide +kernel
theorem dX11_goIn_74 : decode cX11_goIn 74 = .ok (.invokevirtual 127, 3) := by decide +kernel
theorem dX11_goIn_77 : decode cX11_goIn 77 = .ok (.aload_n 0, 1) := by decide +kernel
theorem dX11_goIn_78 : decode cX11_goIn 78 = .ok (.getfield 14, 3) := by decide +kernel
theorem dX11_goIn_81 : decode cX11_goIn 81 = .ok (.bipush 6, 2) := by decide +kernel
theorem dX11_goIn_83 : decode cX11_goIn 83 = .ok (.aload_n 0, 1) := by decide +kernel
theorem dX11_goIn_84 : decode cX11_goIn 84 = .ok (.getfield 14, 3) := by decide +kernel
theorem dX11_goIn_87 : decode cX11_goIn 87 = .ok (.bipush 6, 2) := by decide +kernel
theorem dX11_goIn_89 : decode cX11_goIn 89 = .ok (.iaload, 1) := by decide +kernel
theorem dX11_goIn_90 : decode cX11_goIn 90 = .ok (.iconst 1, 1) := by decide +kernel
theorem dX11_goIn_91 : decode cX11_goIn 91 = .ok (.isub, 1) := by decide +kernel
theorem dX11_goIn_92 : decode cX11_goIn 92 = .ok (.invokestatic 93, 3) := by decide +kernel
theorem dX11_goIn_95 : decode cX11_goIn 95 = .ok (.iastore, 1) := by decide +kernel
theorem dX11_goIn_96 : decode cX11_goIn 96 = .ok (.aload_n 0, 1) := by decide +kernel
theorem dX11_goIn_97 : decode cX11_goIn 97 = .ok (.aload_n 0, 1) := by decide +kernel
theorem dX11_goIn_98 : decode cX11_goIn 98 = .ok (.getfield 14, 3) := by decide +kernel
theorem dX11_goIn_101 : decode cX11_goIn 101 = .ok (.bipush 6, 2) := by decide +kernel
theorem dX11_goIn_103 : decode cX11_goIn 103 = .ok (.iaload, 1) := by decide +kernel
theorem dX11_goIn_104 : decode cX11_goIn 104 = .ok (.aload_n 0, 1) := by decide +kernel
theorem dX11_goIn_105 : decode cX11_goIn 105 = .ok (.getfield 57, 3) := by decide +kernel
theorem dX11_goIn_108 : decode cX11_goIn 108 = .ok (.invokevirtual 127, 3) := by decide +kernel
theorem dX11_goIn_111 : decode cX11_goIn 111 = .ok (.return_, 1) := by decide +kernel
theorem dX11_exception_0 : decode cX11_exception 0 = .ok (.aload_n 0, 1) := by decide +kernel
theorem dX11_exception_1 : decode cX11_exception 1 = .ok (.dup, 1) := by decide +kernel
theorem dX11_exception_2 : decode cX11_exception 2 = .ok (.getfield 132, 3) := by decide +kernel
theorem dX11_exception_5 : decode cX11_exception 5 = .ok (.iconst 1, 1) := by decide +kernel
theorem dX11_exception_6 : decode cX11_exception 6 = .ok (.iadd, 1) := by decide +kernel
theorem dX11_exception_7 : decode cX11_exception 7 = .ok (.putfield 132, 3) := by decide +kernel
theorem dX11_exception_10 : decode cX11_exception 10 = .ok (.aload_n 0, 1) := by decide +kernel
theorem dX11_exception_11 : decode cX11_exception 11 = .ok (.invokevirtual 135, 3) := by decide +kernel
theorem dX11_exception_14 : decode cX11_exception 14 = .ok (.aload_n 0, 1) := by decide +kernel
theorem dX11_exception_15 : decode cX11_exception 15 = .ok (.aload_n 0, 1) := by decide +kernel
theorem dX11_exception_16 : decode cX11_exception 16 = .ok (.sipush 256, 3) := by decide +kernel
theorem dX11_exception_19 : decode cX11_exception 19 = .ok (.iload_n 1, 1) := by decide +kernel
theorem dX11_exception_20 : decode cX11_exception 20 = .ok (.iadd, 1) := by decide +kernel
theorem dX11_exception_21 : decode cX11_exception 21 = .ok (.invokevirtual 124, 3) := by decide +kernel
theorem dX11_exception_24 : decode cX11_exception 24 = .ok (.putfield 57, 3) := by decide +kernel
theorem dX11_exception_27 : decode cX11_exception 27 = .ok (.return_, 1) := by decide +kernel
theorem dX11_step_0 : decode cX11_step 0 = .ok (.aload_n 0, 1) := by decide +kernel
theorem dX11_step_1 : decode cX11_step 1 = .ok (.dup, 1) := by decide +kernel
theorem dX11_step_2 : decode cX11_step 2 = .ok (.getfield 138, 3) := by decide +kernel
theorem dX11_step_5 : decode cX11_step 5 = .ok (.iconst 1, 1) := by decide +kernel
theorem dX11_step_6 : decode cX11_step 6 = .ok (.iadd, 1) := by decide +kernel
theorem dX11_step_7 : decode cX11_step 7 = .ok (.putfield 138, 3) := by decide +kernel
theorem dX11_step_10 : decode cX11_step 10 = .ok (.aload_n 0, 1) := by decide +kernel
theorem dX11_step_11 : decode cX11_step 11 = .ok (.getfield 77, 3) := by decide +kernel
theorem dX11_step_14 : decode cX11_step 14 = .ok (.ifCond .eq 65, 3) := by decide +kernel
theorem dX11_step_17 : decode cX11_step 17 = .ok (.aload_n 0, 1) := by decide +kernel
theorem dX11_step_18 : decode cX11_step 18 = .ok (.getfield 84, 3) := by decide +kernel
theorem dX11_step_21 : decode cX11_step 21 = .ok (.ifCond .le 58, 3) := by decide +kernel
theorem dX11_step_24 : decode cX11_step 24 = .ok (.aload_n 0, 1) := by decide +kernel
theorem dX11_step_25 : decode cX11_step 25 = .ok (.getfield 64, 3) := by decide +kernel
theorem dX11_step_28 : decode cX11_step 28 = .ok (.bipush 8, 2) := by decide +kernel
theorem dX11_step_30 : decode cX11_step 30 = .ok (.ishr, 1) := by decide +kernel
theorem dX11_step_31 : decode cX11_step 31 = .ok (.bipush 7, 2) := by decide +kernel
theorem dX11_step_33 : decode cX11_step 33 = .ok (.iand, 1) := by decide +kernel
theorem dX11_step_34 : decode cX11_step 34 = .ok (.iconst 4, 1) := by decide +kernel
theorem dX11_step_35 : decode cX11_step 35 = .ok (.if_icmp .ge 44, 3) := by decide +kernel
theorem dX11_step_38 : decode cX11_step 38 = .ok (.aload_n 0, 1) := by decide +kernel
theorem dX11_step_39 : decode cX11_step 39 = .ok (.dup, 1) := by decide +kernel
theorem dX11_step_40 : decode cX11_step 40 = .ok (.getfield 141, 3) := by decide +kernel
theorem dX11_step_43 : decode cX11_step 43 = .ok (.iconst 1, 1) := by decide +kernel
theorem dX11_step_44 : decode cX11_step 44 = .ok (.iadd, 1) := by decide +kernel
theorem dX11_step_45 : decode cX11_step 45 = .ok (.putfield 141, 3) := by decide +kernel
theorem dX11_step_48 : decode cX11_step 48 = .ok (.aload_n 0, 1) := by decide +kernel
theorem dX11_step_49 : decode cX11_step 49 = .ok (.invokevirtual 135, 3) := by decide +kernel
theorem dX11_step_52 : decode cX11_step 52 = .ok (.aload_n 0, 1) := by decide +kernel
theorem dX11_step_53 : decode cX11_step 53 = .ok (.aload_n 0, 1) := by decide +kernel
theorem dX11_step_54 : decode cX11_step 54 = .ok (.getfield 64, 3) := by decide +kernel
theorem dX11_step_57 : decode cX11_step 57 = .ok (.ldc 144, 2) := by decide +kernel
theorem dX11_step_59 : decode cX11_step 59 = .ok (.iand, 1) := by decide +kernel
theorem dX11_step_60 : decode cX11_step 60 = .ok (.sipush 1024, 3) := by decide +kernel
theorem dX11_step_63 : decode cX11_step 63 = .ok (.ior, 1) := by decide +kernel
theorem dX11_step_64 : decode cX11_step 64 = .ok (.putfield 64, 3) := by decide +kernel
theorem dX11_step_67 : decode cX11_step 67 = .ok (.aload_n 0, 1) := by decide +kernel
theorem dX11_step_68 : decode cX11_step 68 = .ok (.aload_n 0, 1) := by decide +kernel
theorem dX11_step_69 : decode cX11_step 69 = .ok (.sipush 384, 3) := by decide +kernel
theorem dX11_step_72 : decode cX11_step 72 = .ok (.invokevirtual 124, 3) := by decide +kernel
theorem dX11_step_75 : decode cX11_step 75 = .ok (.putfield 57, 3) := by decide +kernel
theorem dX11_step_78 : decode cX11_step 78 = .ok (.return_, 1) := by decide +kernel
theorem dX11_step_79 : decode cX11_step 79 = .ok (.aload_n 0, 1) := by decide +kernel
theorem dX11_step_80 : decode cX11_step 80 = .ok (.iconst 0, 1) := by decide +kernel
theorem dX11_step_81 : decode cX11_step 81 = .ok (.putfield 117, 3) := by decide +kernel
theorem dX11_step_84 : decode cX11_step 84 = .ok (.aload_n 0, 1) := by decide +kernel
theorem dX11_step_85 : decode cX11_step 85 = .ok (.getfield 57, 3) := by decide +kernel
theorem dX11_step_88 : decode cX11_step 88 = .ok (.istore_n 1, 1) := by decide +kernel
theorem dX11_step_89 : decode cX11_step 89 = .ok (.aload_n 0, 1) := by decide +kernel
theorem dX11_step_90 : decode cX11_step 90 = .ok (.aload_n 0, 1) := by decide +kernel
theorem dX11_step_91 : decode cX11_step 91 = .ok (.getfield 57, 3) := by decide +kernel
theorem dX11_step_94 : decode cX11_step 94 = .ok (.invokevirtual 145, 3) := by decide +kernel
theorem dX11_step_97 : decode cX11_step 97 = .ok (.istore_n 2, 1) := by decide +kernel
theorem dX11_step_98 : decode cX11_step 98 = .ok (.aload_n 0, 1) := by decide +kernel
theorem dX11_step_99 : decode cX11_step 99 = .ok (.aload_n 0, 1) := by decide +kernel
theorem dX11_step_100 : decode cX11_step 100 = .ok (.getfield 57, 3) := by decide +kernel
theorem dX11_step_103 : decode cX11_step 103 = .ok (.iconst 1, 1) := by decide +kernel
theorem dX11_step_104 : decode cX11_step 104 = .ok (.iadd, 1) := by decide +kernel
theorem dX11_step_105 : decode cX11_step 105 = .ok (.invokestatic 93, 3) := by decide +kernel
theorem dX11_step_108 : decode cX11_step 108 = .ok (.putfield 57, 3) := by decide +kernel
theorem dX11_step_111 : decode cX11_step 111 = .ok (.aload_n 0, 1) := by decide +kernel
theorem dX11_step_112 : decode cX11_step 112 = .ok (.getfield 117, 3) := by decide +kernel
theorem dX11_step_115 : decode cX11_step 115 = .ok (.ifCond .ne 9, 3) := by decide +kernel
theorem dX11_step_118 : decode cX11_step 118 = .ok (.aload_n 0, 1) := by decide +kernel
theorem dX11_step_119 : decode cX11_step 119 = .ok (.iload_n 2, 1) := by decide +kernel
theorem dX11_step_120 : decode cX11_step 120 = .ok (.iload_n 1, 1) := by decide +kernel
theorem dX11_step_121 : decode cX11_step 121 = .ok (.invokevirtual 148, 3) := by decide +kernel
theorem dX11_step_124 : decode cX11_step 124 = .ok (.aload_n 0, 1) := by decide +kernel
theorem dX11_step_125 : decode cX11_step 125 = .ok (.getfield 117, 3) := by decide +kernel
theorem dX11_step_128 : decode cX11_step 128 = .ok (.ifCond .eq 8, 3) := by decide +kernel
theorem dX11_step_131 : decode cX11_step 131 = .ok (.aload_n 0, 1) := by decide +kernel
theorem dX11_step_132 : decode cX11_step 132 = .ok (.iconst 2, 1) := by decide +kernel
theorem dX11_step_133 : decode cX11_step 133 = .ok (.invokevirtual 151, 3) := by decide +kernel
theorem dX11_step_136 : decode cX11_step 136 = .ok (.return_, 1) := by decide +kernel
theorem dX11_does_0 : decode cX11_does 0 = .ok (.iload_n 1, 1) := by decide +kernel
theorem dX11_does_1 : decode cX11_does 1 = .ok (.bipush 9, 2) := by decide +kernel
theorem dX11_does_3 : decode cX11_does 3 = .ok (.ishr, 1) := by decide +kernel
theorem dX11_does_4 : decode cX11_does 4 = .ok (.bipush 7, 2) := by decide +kernel
theorem dX11_does_6 : decode cX11_does 6 = .ok (.iand, 1) := by decide +kernel
theorem dX11_does_7 : decode cX11_does 7 = .ok (.istore_n 3, 1) := by decide +kernel
theorem dX11_does_8 : decode cX11_does 8 = .ok (.aload_n 0, 1) := by decide +kernel
theorem dX11_does_9 : decode cX11_does 9 = .ok (.getfield 14, 3) := by decide +kernel
theorem dX11_does_12 : decode cX11_does 12 = .ok (.iload_n 1, 1) := by decide +kernel
theorem dX11_does_13 : decode cX11_does 13 = .ok (.bipush 6, 2) := by decide +kernel
theorem dX11_does_15 : decode cX11_does 15 = .ok (.ishr, 1) := by decide +kernel
theorem dX11_does_16 : decode cX11_does 16 = .ok (.bipush 7, 2) := by decide +kernel
theorem dX11_does_18 : decode cX11_does 18 = .ok (.iand, 1) := by decide +kernel
theorem dX11_does_19 : decode cX11_does 19 = .ok (.iaload, 1) := by decide +kernel
theorem dX11_does_20 : decode cX11_does 20 = .ok (.istore 4, 2) := by decide +kernel
theorem dX11_does_22 : decode cX11_does 22 = .ok (.aload_n 0, 1) := by decide +kernel
theorem dX11_does_23 : decode cX11_does 23 = .ok (.getfield 57, 3) := by decide +kernel
theorem dX11_does_26 : decode cX11_does 26 = .ok (.iload_n 1, 1) := by decide +kernel
theorem dX11_does_27 : decode cX11_does 27 = .ok (.bipush 9, 2) := by decide +kernel
theorem dX11_does_29 : decode cX11_does 29 = .ok (.invokestatic 154, 3) := by decide +kernel
theorem dX11_does_32 : decode cX11_does 32 = .ok (.iadd, 1) := by decide +kernel
theorem dX11_does_33 : decode cX11_does 33 = .ok (.invokestatic 93, 3) := by decide +kernel
theorem dX11_does_36 : decode cX11_does 36 = .ok (.istore 5, 2) := by decide +kernel
theorem dX11_does_38 : decode cX11_does 38 = .ok (.iconst 0, 1) := by decide +kernel
theorem dX11_does_39 : decode cX11_does 39 = .ok (.istore 6, 2) := by decide +kernel
theorem dX11_does_41 : decode cX11_does 41 = .ok (.iload_n 1, 1) := by decide +kernel
theorem dX11_does_42 : decode cX11_does 42 = .ok (.bipush 12, 2) := by decide +kernel
theorem dX11_does_44 : decode cX11_does 44 = .ok (.ishr, 1) := by decide +kernel
theorem dX11_does_45 : decode cX11_does 45 = .ok (.tableswitch 351 0 15 #[79, 103, 119, 133, 148, 195, 211, 232, 254, 261, 273, 295, 318, 351, 327, 338], 79) := by decide +kernel
theorem dX11_does_124 : decode cX11_does 124 = .ok (.iload_n 1, 1) := by decide +kernel
theorem dX11_does_125 : decode cX11_does 125 = .ok (.bipush 9, 2) := by decide +kernel
theorem dX11_does_127 : decode cX11_does 127 = .ok (.ishr, 1) := by decide +kernel
theorem dX11_does_128 : decode cX11_does 128 = .ok (.bipush 7, 2) := by decide +kernel
theorem dX11_does_130 : decode cX11_does 130 = .ok (.iand, 1) := by decide +kernel
theorem dX11_does_131 : decode cX11_does 131 = .ok (.aload_n 0, 1) := by decide +kernel
theorem dX11_does_132 : decode cX11_does 132 = .ok (.getfield 64, 3) := by decide +kernel
theorem dX11_does_135 : decode cX11_does 135 = .ok (.iand, 1) := by decide +kernel
theorem dX11_does_136 : decode cX11_does 136 = .ok (.ifCond .eq 265, 3) := by decide +kernel
theorem dX11_does_139 : decode cX11_does 139 = .ok (.aload_n 0, 1) := by decide +kernel
theorem dX11_does_140 : decode cX11_does 140 = .ok (.iload 5, 2) := by decide +kernel
theorem dX11_does_142 : decode cX11_does 142 = .ok (.putfield 57, 3) := by decide +kernel
theorem dX11_does_145 : decode cX11_does 145 = .ok (.goto 256, 3) := by decide +kernel
theorem dX11_does_148 : decode cX11_does 148 = .ok (.aload_n 0, 1) := by decide +kernel
theorem dX11_does_149 : decode cX11_does 149 = .ok (.iload_n 3, 1) := by decide +kernel
theorem dX11_does_150 : decode cX11_does 150 = .ok (.iload 4, 2) := by decide +kernel
theorem dX11_does_152 : decode cX11_does 152 = .ok (.aload_n 0, 1) := by decide +kernel
theorem dX11_does_153 : decode cX11_does 153 = .ok (.iload_n 1, 1) := by decide +kernel
theorem dX11_does_154 : decode cX11_does 154 = .ok (.invokevirtual 158, 3) := by decide +kernel
theorem dX11_does_157 : decode cX11_does 157 = .ok (.iadd, 1) := by decide +kernel
theorem dX11_does_158 : decode cX11_does 158 = .ok (.invokevirtual 161, 3) := by decide +kernel
theorem dX11_does_161 : decode cX11_does 161 = .ok (.goto 240, 3) := by decide +kernel
theorem dX11_does_164 : decode cX11_does 164 = .ok (.aload_n 0, 1) := by decide +kernel
theorem dX11_does_165 : decode cX11_does 165 = .ok (.iload_n 3, 1) := by decide +kernel
theorem dX11_does_166 : decode cX11_does 166 = .ok (.aload_n 0, 1) := by decide +kernel
theorem dX11_does_167 : decode cX11_does 167 = .ok (.iload 5, 2) := by decide +kernel
theorem dX11_does_169 : decode cX11_does 169 = .ok (.invokevirtual 145, 3) := by decide +kernel
theorem dX11_does_172 : decode cX11_does 172 = .ok (.invokevirtual 161, 3) := by decide +kernel
theorem dX11_does_175 : decode cX11_does 175 = .ok (.goto 226, 3) := by decide +kernel
theorem dX11_does_178 : decode cX11_does 178 = .ok (.aload_n 0, 1) := by decide +kernel
theorem dX11_does_179 : decode cX11_does 179 = .ok (.iload 5, 2) := by decide +kernel
theorem dX11_does_181 : decode cX11_does 181 = .ok (.aload_n 0, 1) := by decide +kernel
theorem dX11_does_182 : decode cX11_does 182 = .ok (.getfield 14, 3) := by decide +kernel
theorem dX11_does_185 : decode cX11_does 185 = .ok (.iload_n 3, 1) := by decide +kernel
theorem dX11_does_186 : decode cX11_does 186 = .ok (.iaload, 1) := by decide +kernel
theorem dX11_does_187 : decode cX11_does 187 = .ok (.invokevirtual 164, 3) := by decide +kernel
theorem dX11_does_190 : decode cX11_does 190 = .ok (.goto 211, 3) := by decide +kernel
theorem dX11_does_193 : decode cX11_does 193 = .ok (.aload_n 0, 1) := by decide +kernel
theorem dX11_does_194 : decode cX11_does 194 = .ok (.getfield 14, 3) := by decide +kernel
theorem dX11_does_197 : decode cX11_does 197 = .ok (.bipush 7, 2) := by decide +kernel
theorem dX11_does_199 : decode cX11_does 199 = .ok (.aload_n 0, 1) := by decide +kernel
theorem dX11_does_200 : decode cX11_does 200 = .ok (.getfield 57, 3) := by decide +kernel
theorem dX11_does_203 : decode cX11_does 203 = .ok (.iastore, 1) := by decide +kernel
theorem dX11_does_204 : decode cX11_does 204 = .ok (.aload_n 0, 1) := by decide +kernel
theorem dX11_does_205 : decode cX11_does 205 = .ok (.iload_n 1, 1) := by decide +kernel
theorem dX11_does_206 : decode cX11_does 206 = .ok (.bipush 11, 2) := by decide +kernel
theorem dX11_does_208 : decode cX11_does 208 = .ok (.ishr, 1) := by decide +kernel
theorem dX11_does_209 : decode cX11_does 209 = .ok (.iconst 1, 1) := by decide +kernel
theorem dX11_does_210 : decode cX11_does 210 = .ok (.iand, 1) := by decide +kernel
theorem dX11_does_211 : decode cX11_does 211 = .ok (.iconst 1, 1) := by decide +kernel
theorem dX11_does_212 : decode cX11_does 212 = .ok (.if_icmp .ne 20, 3) := by decide +kernel
theorem dX11_does_215 : decode cX11_does 215 = .ok (.aload_n 0, 1) := by decide +kernel
theorem dX11_does_216 : decode cX11_does 216 = .ok (.getfield 57, 3) := by decide +kernel
theorem dX11_does_219 : decode cX11_does 219 = .ok (.iload_n 1, 1) := by decide +kernel
theorem dX11_does_220 : decode cX11_does 220 = .ok (.bipush 11, 2) := by decide +kernel
theorem dX11_does_222 : decode cX11_does 222 = .ok (.invokestatic 154, 3) := by decide +kernel
theorem dX11_does_225 : decode cX11_does 225 = .ok (.iadd, 1) := by decide +kernel
theorem dX11_does_226 : decode cX11_does 226 = .ok (.invokestatic 93, 3) := by decide +kernel
theorem dX11_does_229 : decode cX11_does 229 = .ok (.goto 5, 3) := by decide +kernel
theorem dX11_does_232 : decode cX11_does 232 = .ok (.iload 4, 2) := by decide +kernel
theorem dX11_does_234 : decode cX11_does 234 = .ok (.putfield 57, 3) := by decide +kernel
theorem dX11_does_237 : decode cX11_does 237 = .ok (.goto 164, 3) := by decide +kernel
theorem dX11_does_240 : decode cX11_does 240 = .ok (.aload_n 0, 1) := by decide +kernel
theorem dX11_does_241 : decode cX11_does 241 = .ok (.iload_n 3, 1) := by decide +kernel
theorem dX11_does_242 : decode cX11_does 242 = .ok (.iload 4, 2) := by decide +kernel
theorem dX11_does_244 : decode cX11_does 244 = .ok (.aload_n 0, 1) := by decide +kernel
theorem dX11_does_245 : decode cX11_does 245 = .ok (.iload_n 1, 1) := by decide +kernel
theorem dX11_does_246 : decode cX11_does 246 = .ok (.invokevirtual 158, 3) := by decide +kernel
theorem dX11_does_249 : decode cX11_does 249 = .ok (.iand, 1) := by decide +kernel
theorem dX11_does_250 : decode cX11_does 250 = .ok (.invokevirtual 161, 3) := by decide +kernel
theorem dX11_does_253 : decode cX11_does 253 = .ok (.goto 148, 3) := by decide +kernel
theorem dX11_does_256 : decode cX11_does 256 = .ok (.aload_n 0, 1) := by decide +kernel
theorem dX11_does_257 : decode cX11_does 257 = .ok (.iload_n 3, 1) := by decide +kernel
theorem dX11_does_258 : decode cX11_does 258 = .ok (.aload_n 0, 1) := by decide +kernel
theorem dX11_does_259 : decode cX11_does 259 = .ok (.iload 4, 2) := by decide +kernel
theorem dX11_does_261 : decode cX11_does 261 = .ok (.iload_n 1, 1) := by decide +kernel
theorem dX11_does_262 : decode cX11_does 262 = .ok (.bipush 6, 2) := by decide +kernel
theorem dX11_does_264 : decode cX11_does 264 = .ok (.invokestatic 154, 3) := by decide +kernel
theorem dX11_does_267 : decode cX11_does 267 = .ok (.iadd, 1) := by decide +kernel
theorem dX11_does_268 : decode cX11_does 268 = .ok (.invokevirtual 145, 3) := by decide +kernel
theorem dX11_does_271 : decode cX11_does 271 = .ok (.invokevirtual 161, 3) := by decide +kernel
theorem dX11_does_274 : decode cX11_does 274 = .ok (.goto 127, 3) := by decide +kernel
theorem dX11_does_277 : decode cX11_does 277 = .ok (.aload_n 0, 1) := by decide +kernel
theorem dX11_does_278 : decode cX11_does 278 = .ok (.iload 4, 2) := by decide +kernel
theorem dX11_does_280 : decode cX11_does 280 = .ok (.iload_n 1, 1) := by decide +kernel
theorem dX11_does_281 : decode cX11_does 281 = .ok (.bipush 6, 2) := by decide +kernel
theorem dX11_does_283 : decode cX11_does 283 = .ok (.invokestatic 154, 3) := by decide +kernel
theorem dX11_does_286 : decode cX11_does 286 = .ok (.iadd, 1) := by decide +kernel
theorem dX11_does_287 : decode cX11_does 287 = .ok (.aload_n 0, 1) := by decide +kernel
theorem dX11_does_288 : decode cX11_does 288 = .ok (.getfield 14, 3) := by decide +kernel
theorem dX11_does_291 : decode cX11_does 291 = .ok (.iload_n 3, 1) := by decide +kernel
theorem dX11_does_292 : decode cX11_does 292 = .ok (.iaload, 1) := by decide +kernel
theorem dX11_does_293 : decode cX11_does 293 = .ok (.invokevirtual 164, 3) := by decide +kernel
theorem dX11_does_296 : decode cX11_does 296 = .ok (.goto 105, 3) := by decide +kernel
theorem dX11_does_299 : decode cX11_does 299 = .ok (.aload_n 0, 1) := by decide +kernel
theorem dX11_does_300 : decode cX11_does 300 = .ok (.invokevirtual 167, 3) := by decide +kernel
theorem dX11_does_303 : decode cX11_does 303 = .ok (.goto 98, 3) := by decide +kernel
theorem dX11_does_306 : decode cX11_does 306 = .ok (.aload_n 0, 1) := by decide +kernel
theorem dX11_does_307 : decode cX11_does 307 = .ok (.iload_n 3, 1) := by decide +kernel
theorem dX11_does_308 : decode cX11_does 308 = .ok (.iload 4, 2) := by decide +kernel
theorem dX11_does_310 : decode cX11_does 310 = .ok (.iconst (-1), 1) := by decide +kernel
theorem dX11_does_311 : decode cX11_does 311 = .ok (.ixor, 1) := by decide +kernel
theorem dX11_does_312 : decode cX11_does 312 = .ok (.invokevirtual 161, 3) := by decide +kernel
theorem dX11_does_315 : decode cX11_does 315 = .ok (.goto 86, 3) := by decide +kernel
theorem dX11_does_318 : decode cX11_does 318 = .ok (.aload_n 0, 1) := by decide +kernel
theorem dX11_does_319 : decode cX11_does 319 = .ok (.iload 5, 2) := by decide +kernel
theorem dX11_does_321 : decode cX11_does 321 = .ok (.invokevirtual 145, 3) := by decide +kernel
theorem dX11_does_324 : decode cX11_does 324 = .ok (.istore 6, 2) := by decide +kernel
theorem dX11_does_326 : decode cX11_does 326 = .ok (.aload_n 0, 1) := by decide +kernel
theorem dX11_does_327 : decode cX11_does 327 = .ok (.iload_n 3, 1) := by decide +kernel
theorem dX11_does_328 : decode cX11_does 328 = .ok (.aload_n 0, 1) := by decide +kernel
theorem dX11_does_329 : decode cX11_does 329 = .ok (.iload 6, 2) := by decide +kernel
theorem dX11_does_331 : decode cX11_does 331 = .ok (.invokevirtual 145, 3) := by decide +kernel
theorem dX11_does_334 : decode cX11_does 334 = .ok (.invokevirtual 161, 3) := by decide +kernel
theorem dX11_does_337 : decode cX11_does 337 = .ok (.goto 64, 3) := by decide +kernel
theorem dX11_does_340 : decode cX11_does 340 = .ok (.aload_n 0, 1) := by decide +kernel
theorem dX11_does_341 : decode cX11_does 341 = .ok (.iload 5, 2) := by decide +kernel
theorem dX11_does_343 : decode cX11_does 343 = .ok (.invokevirtual 145, 3) := by decide +kernel
theorem dX11_does_346 : decode cX11_does 346 = .ok (.istore 6, 2) := by decide +kernel
theorem dX11_does_348 : decode cX11_does 348 = .ok (.aload_n 0, 1) := by decide +kernel
theorem dX11_does_349 : decode cX11_does 349 = .ok (.iload 6, 2) := by decide +kernel
theorem dX11_does_351 : decode cX11_does 351 = .ok (.aload_n 0, 1) := by decide +kernel
theorem dX11_does_352 : decode cX11_does 352 = .ok (.getfield 14, 3) := by decide +kernel
theorem dX11_does_355 : decode cX11_does 355 = .ok (.iload_n 3, 1) := by decide +kernel
theorem dX11_does_356 : decode cX11_does 356 = .ok (.iaload, 1) := by decide +kernel
theorem dX11_does_357 : decode cX11_does 357 = .ok (.invokevirtual 164, 3) := by decide +kernel
theorem dX11_does_360 : decode cX11_does 360 = .ok (.goto 41, 3) := by decide +kernel
theorem dX11_does_363 : decode cX11_does 363 = .ok (.aload_n 0, 1) := by decide +kernel
theorem dX11_does_364 : decode cX11_does 364 = .ok (.iload 4, 2) := by decide +kernel
theorem dX11_does_366 : decode cX11_does 366 = .ok (.putfield 57, 3) := by decide +kernel
theorem dX11_does_369 : decode cX11_does 369 = .ok (.goto 32, 3) := by decide +kernel
theorem dX11_does_372 : decode cX11_does 372 = .ok (.aload_n 0, 1) := by decide +kernel
theorem dX11_does_373 : decode cX11_does 373 = .ok (.getfield 14, 3) := by decide +kernel
theorem dX11_does_376 : decode cX11_does 376 = .ok (.iload_n 3, 1) := by decide +kernel
theorem dX11_does_377 : decode cX11_does 377 = .ok (.iload 5, 2) := by decide +kernel
theorem dX11_does_379 : decode cX11_does 379 = .ok (.iastore, 1) := by decide +kernel
theorem dX11_does_380 : decode cX11_does 380 = .ok (.goto 21, 3) := by decide +kernel
theorem dX11_does_383 : decode cX11_does 383 = .ok (.aload_n 0, 1) := by decide +kernel
theorem dX11_does_384 : decode cX11_does 384 = .ok (.iload_n 1, 1) := by decide +kernel
theorem dX11_does_385 : decode cX11_does 385 = .ok (.sipush 255, 3) := by decide +kernel
theorem dX11_does_388 : decode cX11_does 388 = .ok (.iand, 1) := by decide +kernel
theorem dX11_does_389 : decode cX11_does 389 = .ok (.iload_n 2, 1) := by decide +kernel
theorem dX11_does_390 : decode cX11_does 390 = .ok (.invokevirtual 170, 3) := by decide +kernel
theorem dX11_does_393 : decode cX11_does 393 = .ok (.goto 8, 3) := by decide +kernel
theorem dX11_does_396 : decode cX11_does 396 = .ok (.aload_n 0, 1) := by decide +kernel
theorem dX11_does_397 : decode cX11_does 397 = .ok (.iconst 1, 1) := by decide +kernel
theorem dX11_does_398 : decode cX11_does 398 = .ok (.invokevirtual 151, 3) := by decide +kernel
theorem dX11_does_401 : decode cX11_does 401 = .ok (.return_, 1) := by decide +kernel
theorem dX11_second_0 : decode cX11_second 0 = .ok (.iload_n 1, 1) := by decide +kernel
theorem dX11_second_1 : decode cX11_second 1 = .ok (.iconst 5, 1) := by decide +kernel
theorem dX11_second_2 : decode cX11_second 2 = .ok (.ishr, 1) := by decide +kernel
theorem dX11_second_3 : decode cX11_second 3 = .ok (.iconst 1, 1) := by decide +kernel
theorem dX11_second_4 : decode cX11_second 4 = .ok (.iand, 1) := by decide +kernel
theorem dX11_second_5 : decode cX11_second 5 = .ok (.iconst 1, 1) := by decide +kernel
theorem dX11_second_6 : decode cX11_second 6 = .ok (.if_icmp .ne 11, 3) := by decide +kernel
theorem dX11_second_9 : decode cX11_second 9 = .ok (.iload_n 1, 1) := by decide +kernel
theorem dX11_second_10 : decode cX11_second 10 = .ok (.iconst 5, 1) := by decide +kernel
theorem dX11_second_11 : decode cX11_second 11 = .ok (.invokestatic 154, 3) := by decide +kernel
theorem dX11_second_14 : decode cX11_second 14 = .ok (.goto 12, 3) := by decide +kernel
theorem dX11_second_17 : decode cX11_second 17 = .ok (.aload_n 0, 1) := by decide +kernel
theorem dX11_second_18 : decode cX11_second 18 = .ok (.getfield 14, 3) := by decide +kernel
theorem dX11_second_21 : decode cX11_second 21 = .ok (.iload_n 1, 1) := by decide +kernel
theorem dX11_second_22 : decode cX11_second 22 = .ok (.bipush 7, 2) := by decide +kernel
theorem dX11_second_24 : decode cX11_second 24 = .ok (.iand, 1) := by decide +kernel
theorem dX11_second_25 : decode cX11_second 25 = .ok (.iaload, 1) := by decide +kernel
theorem dX11_second_26 : decode cX11_second 26 = .ok (.ireturn, 1) := by decide +kernel
theorem dX11_comesBack_0 : decode cX11_comesBack 0 = .ok (.aload_n 0, 1) := by decide +kernel
theorem dX11_comesBack_1 : decode cX11_comesBack 1 = .ok (.invokevirtual 113, 3) := by decide +kernel
theorem dX11_comesBack_4 : decode cX11_comesBack 4 = .ok (.ifCond .eq 9, 3) := by decide +kernel
theorem dX11_comesBack_7 : decode cX11_comesBack 7 = .ok (.aload_n 0, 1) := by decide +kernel
theorem dX11_comesBack_8 : decode cX11_comesBack 8 = .ok (.iconst 0, 1) := by decide +kernel
theorem dX11_comesBack_9 : decode cX11_comesBack 9 = .ok (.invokevirtual 151, 3) := by decide +kernel
theorem dX11_comesBack_12 : decode cX11_comesBack 12 = .ok (.return_, 1) := by decide +kernel
theorem dX11_comesBack_13 : decode cX11_comesBack 13 = .ok (.aload_n 0, 1) := by decide +kernel
theorem dX11_comesBack_14 : decode cX11_comesBack 14 = .ok (.aload_n 0, 1) := by decide +kernel
theorem dX11_comesBack_15 : decode cX11_comesBack 15 = .ok (.aload_n 0, 1) := by decide +kernel
theorem dX11_comesBack_16 : decode cX11_comesBack 16 = .ok (.getfield 14, 3) := by decide +kernel
theorem dX11_comesBack_19 : decode cX11_comesBack 19 = .ok (.bipush 6, 2) := by decide +kernel
theorem dX11_comesBack_21 : decode cX11_comesBack 21 = .ok (.iaload, 1) := by decide +kernel
theorem dX11_comesBack_22 : decode cX11_comesBack 22 = .ok (.invokevirtual 124, 3) := by decide +kernel
theorem dX11_comesBack_25 : decode cX11_comesBack 25 = .ok (.putfield 57, 3) := by decide +kernel
theorem dX11_comesBack_28 : decode cX11_comesBack 28 = .ok (.aload_n 0, 1) := by decide +kernel
theorem dX11_comesBack_29 : decode cX11_comesBack 29 = .ok (.aload_n 0, 1) := by decide +kernel
theorem dX11_comesBack_30 : decode cX11_comesBack 30 = .ok (.aload_n 0, 1) := by decide +kernel
theorem dX11_comesBack_31 : decode cX11_comesBack 31 = .ok (.getfield 14, 3) := by decide +kernel
theorem dX11_comesBack_34 : decode cX11_comesBack 34 = .ok (.bipush 6, 2) := by decide +kernel
theorem dX11_comesBack_36 : decode cX11_comesBack 36 = .ok (.iaload, 1) := by decide +kernel
theorem dX11_comesBack_37 : decode cX11_comesBack 37 = .ok (.iconst 1, 1) := by decide +kernel
theorem dX11_comesBack_38 : decode cX11_comesBack 38 = .ok (.iadd, 1) := by decide +kernel
theorem dX11_comesBack_39 : decode cX11_comesBack 39 = .ok (.invokevirtual 124, 3) := by decide +kernel
theorem dX11_comesBack_42 : decode cX11_comesBack 42 = .ok (.ldc 173, 2) := by decide +kernel
theorem dX11_comesBack_44 : decode cX11_comesBack 44 = .ok (.iand, 1) := by decide +kernel
theorem dX11_comesBack_45 : decode cX11_comesBack 45 = .ok (.putfield 64, 3) := by decide +kernel
theorem dX11_comesBack_48 : decode cX11_comesBack 48 = .ok (.aload_n 0, 1) := by decide +kernel
theorem dX11_comesBack_49 : decode cX11_comesBack 49 = .ok (.getfield 14, 3) := by decide +kernel
theorem dX11_comesBack_52 : decode cX11_comesBack 52 = .ok (.bipush 6, 2) := by decide +kernel
theorem dX11_comesBack_54 : decode cX11_comesBack 54 = .ok (.aload_n 0, 1) := by decide +kernel
theorem dX11_comesBack_55 : decode cX11_comesBack 55 = .ok (.getfield 14, 3) := by decide +kernel
theorem dX11_comesBack_58 : decode cX11_comesBack 58 = .ok (.bipush 6, 2) := by decide +kernel
theorem dX11_comesBack_60 : decode cX11_comesBack 60 = .ok (.iaload, 1) := by decide +kernel
theorem dX11_comesBack_61 : decode cX11_comesBack 61 = .ok (.iconst 2, 1) := by decide +kernel
theorem dX11_comesBack_62 : decode cX11_comesBack 62 = .ok (.iadd, 1) := by decide +kernel
theorem dX11_comesBack_63 : decode cX11_comesBack 63 = .ok (.invokestatic 93, 3) := by decide +kernel
theorem dX11_comesBack_66 : decode cX11_comesBack 66 = .ok (.iastore, 1) := by decide +kernel
theorem dX11_comesBack_67 : decode cX11_comesBack 67 = .ok (.aload_n 0, 1) := by decide +kernel
theorem dX11_comesBack_68 : decode cX11_comesBack 68 = .ok (.invokevirtual 113, 3) := by decide +kernel
theorem dX11_comesBack_71 : decode cX11_comesBack 71 = .ok (.ifCond .eq 25, 3) := by decide +kernel
theorem dX11_comesBack_74 : decode cX11_comesBack 74 = .ok (.aload_n 0, 1) := by decide +kernel
theorem dX11_comesBack_75 : decode cX11_comesBack 75 = .ok (.aload_n 0, 1) := by decide +kernel
theorem dX11_comesBack_76 : decode cX11_comesBack 76 = .ok (.getfield 14, 3) := by decide +kernel
theorem dX11_comesBack_79 : decode cX11_comesBack 79 = .ok (.bipush 6, 2) := by decide +kernel
theorem dX11_comesBack_81 : decode cX11_comesBack 81 = .ok (.iaload, 1) := by decide +kernel
theorem dX11_comesBack_82 : decode cX11_comesBack 82 = .ok (.putfield 67, 3) := by decide +kernel
theorem dX11_comesBack_85 : decode cX11_comesBack 85 = .ok (.aload_n 0, 1) := by decide +kernel
theorem dX11_comesBack_86 : decode cX11_comesBack 86 = .ok (.getfield 14, 3) := by decide +kernel
theorem dX11_comesBack_89 : decode cX11_comesBack 89 = .ok (.bipush 6, 2) := by decide +kernel
theorem dX11_comesBack_91 : decode cX11_comesBack 91 = .ok (.aload_n 0, 1) := by decide +kernel
theorem dX11_comesBack_92 : decode cX11_comesBack 92 = .ok (.getfield 71, 3) := by decide +kernel
theorem dX11_comesBack_95 : decode cX11_comesBack 95 = .ok (.iastore, 1) := by decide +kernel
theorem dX11_comesBack_96 : decode cX11_comesBack 96 = .ok (.return_, 1) := by decide +kernel
theorem dX11_trap_0 : decode cX11_trap 0 = .ok (.aload_n 0, 1) := by decide +kernel
theorem dX11_trap_1 : decode cX11_trap 1 = .ok (.getfield 8, 3) := by decide +kernel
theorem dX11_trap_4 : decode cX11_trap 4 = .ok (.iload_n 1, 1) := by decide +kernel
theorem dX11_trap_5 : decode cX11_trap 5 = .ok (.iaload, 1) := by decide +kernel
theorem dX11_trap_6 : decode cX11_trap 6 = .ok (.ifCond .eq 27, 3) := by decide +kernel
theorem dX11_trap_9 : decode cX11_trap 9 = .ok (.aload_n 0, 1) := by decide +kernel
theorem dX11_trap_10 : decode cX11_trap 10 = .ok (.dup, 1) := by decide +kernel
theorem dX11_trap_11 : decode cX11_trap 11 = .ok (.getfield 174, 3) := by decide +kernel
theorem dX11_trap_14 : decode cX11_trap 14 = .ok (.iconst 1, 1) := by decide +kernel
theorem dX11_trap_15 : decode cX11_trap 15 = .ok (.iadd, 1) := by decide +kernel
theorem dX11_trap_16 : decode cX11_trap 16 = .ok (.putfield 174, 3) := by decide +kernel
theorem dX11_trap_19 : decode cX11_trap 19 = .ok (.aload_n 0, 1) := by decide +kernel
theorem dX11_trap_20 : decode cX11_trap 20 = .ok (.invokevirtual 135, 3) := by decide +kernel
theorem dX11_trap_23 : decode cX11_trap 23 = .ok (.aload_n 0, 1) := by decide +kernel
theorem dX11_trap_24 : decode cX11_trap 24 = .ok (.aload_n 0, 1) := by decide +kernel
theorem dX11_trap_25 : decode cX11_trap 25 = .ok (.iload_n 1, 1) := by decide +kernel
theorem dX11_trap_26 : decode cX11_trap 26 = .ok (.invokevirtual 124, 3) := by decide +kernel
theorem dX11_trap_29 : decode cX11_trap 29 = .ok (.putfield 57, 3) := by decide +kernel
theorem dX11_trap_32 : decode cX11_trap 32 = .ok (.return_, 1) := by decide +kernel
theorem dX11_trap_33 : decode cX11_trap 33 = .ok (.iload_n 1, 1) := by decide +kernel
theorem dX11_trap_34 : decode cX11_trap 34 = .ok (.bipush 32, 2) := by decide +kernel
theorem dX11_trap_36 : decode cX11_trap 36 = .ok (.if_icmp .eq 9, 3) := by decide +kernel
theorem dX11_trap_39 : decode cX11_trap 39 = .ok (.iload_n 1, 1) := by decide +kernel
theorem dX11_trap_40 : decode cX11_trap 40 = .ok (.bipush 35, 2) := by decide +kernel
theorem dX11_trap_42 : decode cX11_trap 42 = .ok (.if_icmp .ne 50, 3) := by decide +kernel
theorem dX11_trap_45 : decode cX11_trap 45 = .ok (.aload_n 0, 1) := by decide +kernel
theorem dX11_trap_46 : decode cX11_trap 46 = .ok (.getfield 84, 3) := by decide +kernel
theorem dX11_trap_49 : decode cX11_trap 49 = .ok (.ifCond .ne 14, 3) := by decide +kernel
theorem dX11_trap_52 : decode cX11_trap 52 = .ok (.aload_n 0, 1) := by decide +kernel
theorem dX11_trap_53 : decode cX11_trap 53 = .ok (.iload_n 2, 1) := by decide +kernel
theorem dX11_trap_54 : decode cX11_trap 54 = .ok (.putfield 57, 3) := by decide +kernel
theorem dX11_trap_57 : decode cX11_trap 57 = .ok (.aload_n 0, 1) := by decide +kernel
theorem dX11_trap_58 : decode cX11_trap 58 = .ok (.iconst 2, 1) := by decide +kernel
theorem dX11_trap_59 : decode cX11_trap 59 = .ok (.putfield 74, 3) := by decide +kernel
theorem dX11_trap_62 : decode cX11_trap 62 = .ok (.return_, 1) := by decide +kernel
theorem dX11_trap_63 : decode cX11_trap 63 = .ok (.aload_n 0, 1) := by decide +kernel
theorem dX11_trap_64 : decode cX11_trap 64 = .ok (.getfield 14, 3) := by decide +kernel
theorem dX11_trap_67 : decode cX11_trap 67 = .ok (.iconst 0, 1) := by decide +kernel
theorem dX11_trap_68 : decode cX11_trap 68 = .ok (.aload_n 0, 1) := by decide +kernel
theorem dX11_trap_69 : decode cX11_trap 69 = .ok (.invokevirtual 100, 3) := by decide +kernel
theorem dX11_trap_72 : decode cX11_trap 72 = .ok (.iastore, 1) := by decide +kernel
theorem dX11_trap_73 : decode cX11_trap 73 = .ok (.iload_n 1, 1) := by decide +kernel
theorem dX11_trap_74 : decode cX11_trap 74 = .ok (.bipush 35, 2) := by decide +kernel
theorem dX11_trap_76 : decode cX11_trap 76 = .ok (.if_icmp .ne 88, 3) := by decide +kernel
theorem dX11_trap_79 : decode cX11_trap 79 = .ok (.aload_n 0, 1) := by decide +kernel
theorem dX11_trap_80 : decode cX11_trap 80 = .ok (.aload_n 0, 1) := by decide +kernel
theorem dX11_trap_81 : decode cX11_trap 81 = .ok (.getfield 14, 3) := by decide +kernel
theorem dX11_trap_84 : decode cX11_trap 84 = .ok (.iconst 0, 1) := by decide +kernel
theorem dX11_trap_85 : decode cX11_trap 85 = .ok (.iaload, 1) := by decide +kernel
theorem dX11_trap_86 : decode cX11_trap 86 = .ok (.invokevirtual 104, 3) := by decide +kernel
theorem dX11_trap_89 : decode cX11_trap 89 = .ok (.goto 75, 3) := by decide +kernel
theorem dX11_trap_92 : decode cX11_trap 92 = .ok (.iload_n 1, 1) := by decide +kernel
theorem dX11_trap_93 : decode cX11_trap 93 = .ok (.bipush 33, 2) := by decide +kernel
theorem dX11_trap_95 : decode cX11_trap 95 = .ok (.if_icmp .ne 20, 3) := by decide +kernel
theorem dX11_trap_98 : decode cX11_trap 98 = .ok (.aload_n 0, 1) := by decide +kernel
theorem dX11_trap_99 : decode cX11_trap 99 = .ok (.aload_n 0, 1) := by decide +kernel
theorem dX11_trap_100 : decode cX11_trap 100 = .ok (.getfield 14, 3) := by decide +kernel
theorem dX11_trap_103 : decode cX11_trap 103 = .ok (.iconst 0, 1) := by decide +kernel
theorem dX11_trap_104 : decode cX11_trap 104 = .ok (.iaload, 1) := by decide +kernel
theorem dX11_trap_105 : decode cX11_trap 105 = .ok (.sipush 255, 3) := by decide +kernel
theorem dX11_trap_108 : decode cX11_trap 108 = .ok (.iand, 1) := by decide +kernel
theorem dX11_trap_109 : decode cX11_trap 109 = .ok (.invokevirtual 104, 3) := by decide +kernel
theorem dX11_trap_112 : decode cX11_trap 112 = .ok (.goto 52, 3) := by decide +kernel
theorem dX11_trap_115 : decode cX11_trap 115 = .ok (.iload_n 1, 1) := by decide +kernel
theorem dX11_trap_116 : decode cX11_trap 116 = .ok (.bipush 34, 2) := by decide +kernel
theorem dX11_trap_118 : decode cX11_trap 118 = .ok (.if_icmp .eq 9, 3) := by decide +kernel
theorem dX11_trap_121 : decode cX11_trap 121 = .ok (.iload_n 1, 1) := by decide +kernel
theorem dX11_trap_122 : decode cX11_trap 122 = .ok (.bipush 36, 2) := by decide +kernel
theorem dX11_trap_124 : decode cX11_trap 124 = .ok (.if_icmp .ne 21, 3) := by decide +kernel
theorem dX11_trap_127 : decode cX11_trap 127 = .ok (.aload_n 0, 1) := by decide +kernel
theorem dX11_trap_128 : decode cX11_trap 128 = .ok (.iload_n 1, 1) := by decide +kernel
theorem dX11_trap_129 : decode cX11_trap 129 = .ok (.bipush 36, 2) := by decide +kernel
theorem dX11_trap_131 : decode cX11_trap 131 = .ok (.if_icmp .ne 7, 3) := by decide +kernel
theorem dX11_trap_134 : decode cX11_trap 134 = .ok (.iconst 1, 1) := by decide +kernel
theorem dX11_trap_135 : decode cX11_trap 135 = .ok (.goto 4, 3) := by decide +kernel
theorem dX11_trap_138 : decode cX11_trap 138 = .ok (.iconst 0, 1) := by decide +kernel
theorem dX11_trap_139 : decode cX11_trap 139 = .ok (.invokevirtual 177, 3) := by decide +kernel
theorem dX11_trap_142 : decode cX11_trap 142 = .ok (.goto 22, 3) := by decide +kernel
theorem dX11_trap_145 : decode cX11_trap 145 = .ok (.iload_n 1, 1) := by decide +kernel
theorem dX11_trap_146 : decode cX11_trap 146 = .ok (.bipush 37, 2) := by decide +kernel
theorem dX11_trap_148 : decode cX11_trap 148 = .ok (.if_icmp .ne 11, 3) := by decide +kernel
theorem dX11_trap_151 : decode cX11_trap 151 = .ok (.aload_n 0, 1) := by decide +kernel
theorem dX11_trap_152 : decode cX11_trap 152 = .ok (.iconst 1, 1) := by decide +kernel
theorem dX11_trap_153 : decode cX11_trap 153 = .ok (.putfield 74, 3) := by decide +kernel
theorem dX11_trap_156 : decode cX11_trap 156 = .ok (.goto 8, 3) := by decide +kernel
theorem dX11_trap_159 : decode cX11_trap 159 = .ok (.aload_n 0, 1) := by decide +kernel
theorem dX11_trap_160 : decode cX11_trap 160 = .ok (.iconst 1, 1) := by decide +kernel
theorem dX11_trap_161 : decode cX11_trap 161 = .ok (.invokevirtual 151, 3) := by decide +kernel
theorem dX11_trap_164 : decode cX11_trap 164 = .ok (.return_, 1) := by decide +kernel
theorem dX11_string_0 : decode cX11_string 0 = .ok (.iconst 0, 1) := by decide +kernel
theorem dX11_string_1 : decode cX11_string 1 = .ok (.istore_n 2, 1) := by decide +kernel
theorem dX11_string_2 : decode cX11_string 2 = .ok (.aload_n 0, 1) := by decide +kernel
theorem dX11_string_3 : decode cX11_string 3 = .ok (.getfield 14, 3) := by decide +kernel
theorem dX11_string_6 : decode cX11_string 6 = .ok (.iconst 0, 1) := by decide +kernel
theorem dX11_string_7 : decode cX11_string 7 = .ok (.iaload, 1) := by decide +kernel
theorem dX11_string_8 : decode cX11_string 8 = .ok (.istore_n 3, 1) := by decide +kernel
theorem dX11_string_9 : decode cX11_string 9 = .ok (.iload_n 2, 1) := by decide +kernel
theorem dX11_string_10 : decode cX11_string 10 = .ok (.sipush 4096, 3) := by decide +kernel
theorem dX11_string_13 : decode cX11_string 13 = .ok (.if_icmp .ge 62, 3) := by decide +kernel
theorem dX11_string_16 : decode cX11_string 16 = .ok (.aload_n 0, 1) := by decide +kernel
theorem dX11_string_17 : decode cX11_string 17 = .ok (.iload_n 3, 1) := by decide +kernel
theorem dX11_string_18 : decode cX11_string 18 = .ok (.invokevirtual 97, 3) := by decide +kernel
theorem dX11_string_21 : decode cX11_string 21 = .ok (.ifCond .eq 54, 3) := by decide +kernel
theorem dX11_string_24 : decode cX11_string 24 = .ok (.aload_n 0, 1) := by decide +kernel
theorem dX11_string_25 : decode cX11_string 25 = .ok (.iload_n 3, 1) := by decide +kernel
theorem dX11_string_26 : decode cX11_string 26 = .ok (.invokevirtual 97, 3) := by decide +kernel
theorem dX11_string_29 : decode cX11_string 29 = .ok (.istore 4, 2) := by decide +kernel
theorem dX11_string_31 : decode cX11_string 31 = .ok (.aload_n 0, 1) := by decide +kernel
theorem dX11_string_32 : decode cX11_string 32 = .ok (.iload 4, 2) := by decide +kernel
theorem dX11_string_34 : decode cX11_string 34 = .ok (.sipush 255, 3) := by decide +kernel
theorem dX11_string_37 : decode cX11_string 37 = .ok (.iand, 1) := by decide +kernel
theorem dX11_string_38 : decode cX11_string 38 = .ok (.invokevirtual 104, 3) := by decide +kernel
theorem dX11_string_41 : decode cX11_string 41 = .ok (.iload_n 1, 1) := by decide +kernel
theorem dX11_string_42 : decode cX11_string 42 = .ok (.ifCond .eq 20, 3) := by decide +kernel
theorem dX11_string_45 : decode cX11_string 45 = .ok (.iload 4, 2) := by decide +kernel
theorem dX11_string_47 : decode cX11_string 47 = .ok (.bipush 8, 2) := by decide +kernel
theorem dX11_string_49 : decode cX11_string 49 = .ok (.ishr, 1) := by decide +kernel
theorem dX11_string_50 : decode cX11_string 50 = .ok (.ifCond .eq 12, 3) := by decide +kernel
theorem dX11_string_53 : decode cX11_string 53 = .ok (.aload_n 0, 1) := by decide +kernel
theorem dX11_string_54 : decode cX11_string 54 = .ok (.iload 4, 2) := by decide +kernel
theorem dX11_string_56 : decode cX11_string 56 = .ok (.bipush 8, 2) := by decide +kernel
theorem dX11_string_58 : decode cX11_string 58 = .ok (.ishr, 1) := by decide +kernel
theorem dX11_string_59 : decode cX11_string 59 = .ok (.invokevirtual 104, 3) := by decide +kernel
theorem dX11_string_62 : decode cX11_string 62 = .ok (.iload_n 3, 1) := by decide +kernel
theorem dX11_string_63 : decode cX11_string 63 = .ok (.iconst 1, 1) := by decide +kernel
theorem dX11_string_64 : decode cX11_string 64 = .ok (.iadd, 1) := by decide +kernel
theorem dX11_string_65 : decode cX11_string 65 = .ok (.invokestatic 93, 3) := by decide +kernel
theorem dX11_string_68 : decode cX11_string 68 = .ok (.istore_n 3, 1) := by decide +kernel
theorem dX11_string_69 : decode cX11_string 69 = .ok (.iinc 2 1, 3) := by decide +kernel
theorem dX11_string_72 : decode cX11_string 72 = .ok (.goto (-63), 3) := by decide +kernel
theorem dX11_string_75 : decode cX11_string 75 = .ok (.return_, 1) := by decide +kernel
theorem dX11_key_0 : decode cX11_key 0 = .ok (.aload_n 0, 1) := by decide +kernel
theorem dX11_key_1 : decode cX11_key 1 = .ok (.iconst 0, 1) := by decide +kernel
theorem dX11_key_2 : decode cX11_key 2 = .ok (.putfield 60, 3) := by decide +kernel
theorem dX11_key_5 : decode cX11_key 5 = .ok (.aload_n 0, 1) := by decide +kernel
theorem dX11_key_6 : decode cX11_key 6 = .ok (.getfield 84, 3) := by decide +kernel
theorem dX11_key_9 : decode cX11_key 9 = .ok (.bipush 100, 2) := by decide +kernel
theorem dX11_key_11 : decode cX11_key 11 = .ok (.if_icmp .ne 5, 3) := by decide +kernel
theorem dX11_key_14 : decode cX11_key 14 = .ok (.iconst 0, 1) := by decide +kernel
theorem dX11_key_15 : decode cX11_key 15 = .ok (.ireturn, 1) := by decide +kernel
theorem dX11_key_16 : decode cX11_key 16 = .ok (.aload_n 0, 1) := by decide +kernel
theorem dX11_key_17 : decode cX11_key 17 = .ok (.getfield 17, 3) := by decide +kernel
theorem dX11_key_20 : decode cX11_key 20 = .ok (.aload_n 0, 1) := by decide +kernel
theorem dX11_key_21 : decode cX11_key 21 = .ok (.getfield 84, 3) := by decide +kernel
theorem dX11_key_24 : decode cX11_key 24 = .ok (.iload_n 1, 1) := by decide +kernel
theorem dX11_key_25 : decode cX11_key 25 = .ok (.sipush 255, 3) := by decide +kernel
theorem dX11_key_28 : decode cX11_key 28 = .ok (.iand, 1) := by decide +kernel
theorem dX11_key_29 : decode cX11_key 29 = .ok (.iastore, 1) := by decide +kernel
theorem dX11_key_30 : decode cX11_key 30 = .ok (.aload_n 0, 1) := by decide +kernel
theorem dX11_key_31 : decode cX11_key 31 = .ok (.dup, 1) := by decide +kernel
theorem dX11_key_32 : decode cX11_key 32 = .ok (.getfield 84, 3) := by decide +kernel
theorem dX11_key_35 : decode cX11_key 35 = .ok (.iconst 1, 1) := by decide +kernel
theorem dX11_key_36 : decode cX11_key 36 = .ok (.iadd, 1) := by decide +kernel
theorem dX11_key_37 : decode cX11_key 37 = .ok (.putfield 84, 3) := by decide +kernel
theorem dX11_key_40 : decode cX11_key 40 = .ok (.aload_n 0, 1) := by decide +kernel
theorem dX11_key_41 : decode cX11_key 41 = .ok (.getfield 74, 3) := by decide +kernel
theorem dX11_key_44 : decode cX11_key 44 = .ok (.iconst 2, 1) := by decide +kernel
theorem dX11_key_45 : decode cX11_key 45 = .ok (.if_icmp .ne 8, 3) := by decide +kernel
theorem dX11_key_48 : decode cX11_key 48 = .ok (.aload_n 0, 1) := by decide +kernel
theorem dX11_key_49 : decode cX11_key 49 = .ok (.iconst 0, 1) := by decide +kernel
theorem dX11_key_50 : decode cX11_key 50 = .ok (.putfield 74, 3) := by decide +kernel
theorem dX11_key_53 : decode cX11_key 53 = .ok (.iconst 1, 1) := by decide +kernel
theorem dX11_key_54 : decode cX11_key 54 = .ok (.ireturn, 1) := by decide +kernel
theorem dX11_run_0 : decode cX11_run 0 = .ok (.aload_n 0, 1) := by decide +kernel
theorem dX11_run_1 : decode cX11_run 1 = .ok (.iload_n 1, 1) := by decide +kernel
theorem dX11_run_2 : decode cX11_run 2 = .ok (.ifCond .lt 10, 3) := by decide +kernel
theorem dX11_run_5 : decode cX11_run 5 = .ok (.iload_n 1, 1) := by decide +kernel
theorem dX11_run_6 : decode cX11_run 6 = .ok (.sipush 20000, 3) := by decide +kernel
theorem dX11_run_9 : decode cX11_run 9 = .ok (.if_icmp .le 7, 3) := by decide +kernel
theorem dX11_run_12 : decode cX11_run 12 = .ok (.iconst 1, 1) := by decide +kernel
theorem dX11_run_13 : decode cX11_run 13 = .ok (.goto 4, 3) := by decide +kernel
theorem dX11_run_16 : decode cX11_run 16 = .ok (.iconst 0, 1) := by decide +kernel
theorem dX11_run_17 : decode cX11_run 17 = .ok (.putfield 60, 3) := by decide +kernel
theorem dX11_run_20 : decode cX11_run 20 = .ok (.iconst 0, 1) := by decide +kernel
theorem dX11_run_21 : decode cX11_run 21 = .ok (.istore_n 2, 1) := by decide +kernel
theorem dX11_run_22 : decode cX11_run 22 = .ok (.iconst 0, 1) := by decide +kernel
theorem dX11_run_23 : decode cX11_run 23 = .ok (.istore_n 3, 1) := by decide +kernel
theorem dX11_run_24 : decode cX11_run 24 = .ok (.aload_n 0, 1) := by decide +kernel
theorem dX11_run_25 : decode cX11_run 25 = .ok (.getfield 60, 3) := by decide +kernel
theorem dX11_run_28 : decode cX11_run 28 = .ok (.ifCond .ne 49, 3) := by decide +kernel
theorem dX11_run_31 : decode cX11_run 31 = .ok (.iload_n 2, 1) := by decide +kernel
theorem dX11_run_32 : decode cX11_run 32 = .ok (.iload_n 1, 1) := by decide +kernel
theorem dX11_run_33 : decode cX11_run 33 = .ok (.if_icmp .ge 44, 3) := by decide +kernel
theorem dX11_run_36 : decode cX11_run 36 = .ok (.aload_n 0, 1) := by decide +kernel
theorem dX11_run_37 : decode cX11_run 37 = .ok (.getfield 74, 3) := by decide +kernel
theorem dX11_run_40 : decode cX11_run 40 = .ok (.iconst 1, 1) := by decide +kernel
theorem dX11_run_41 : decode cX11_run 41 = .ok (.if_icmp .eq 36, 3) := by decide +kernel
theorem dX11_run_44 : decode cX11_run 44 = .ok (.iload_n 3, 1) := by decide +kernel
theorem dX11_run_45 : decode cX11_run 45 = .ok (.ifCond .ne 32, 3) := by decide +kernel
theorem dX11_run_48 : decode cX11_run 48 = .ok (.aload_n 0, 1) := by decide +kernel
theorem dX11_run_49 : decode cX11_run 49 = .ok (.iconst 0, 1) := by decide +kernel
theorem dX11_run_50 : decode cX11_run 50 = .ok (.putfield 74, 3) := by decide +kernel
theorem dX11_run_53 : decode cX11_run 53 = .ok (.aload_n 0, 1) := by decide +kernel
theorem dX11_run_54 : decode cX11_run 54 = .ok (.invokevirtual 181, 3) := by decide +kernel
theorem dX11_run_57 : decode cX11_run 57 = .ok (.iinc 2 1, 3) := by decide +kernel
theorem dX11_run_60 : decode cX11_run 60 = .ok (.aload_n 0, 1) := by decide +kernel
theorem dX11_run_61 : decode cX11_run 61 = .ok (.getfield 74, 3) := by decide +kernel
theorem dX11_run_64 : decode cX11_run 64 = .ok (.iconst 2, 1) := by decide +kernel
theorem dX11_run_65 : decode cX11_run 65 = .ok (.if_icmp .ne 7, 3) := by decide +kernel
theorem dX11_run_68 : decode cX11_run 68 = .ok (.iconst 1, 1) := by decide +kernel
theorem dX11_run_69 : decode cX11_run 69 = .ok (.goto 4, 3) := by decide +kernel
theorem dX11_run_72 : decode cX11_run 72 = .ok (.iconst 0, 1) := by decide +kernel
theorem dX11_run_73 : decode cX11_run 73 = .ok (.istore_n 3, 1) := by decide +kernel
theorem dX11_run_74 : decode cX11_run 74 = .ok (.goto (-50), 3) := by decide +kernel
theorem dX11_run_77 : decode cX11_run 77 = .ok (.iload_n 2, 1) := by decide +kernel
theorem dX11_run_78 : decode cX11_run 78 = .ok (.ireturn, 1) := by decide +kernel
theorem dX11_state_0 : decode cX11_state 0 = .ok (.aload_n 0, 1) := by decide +kernel
theorem dX11_state_1 : decode cX11_state 1 = .ok (.iconst 0, 1) := by decide +kernel
theorem dX11_state_2 : decode cX11_state 2 = .ok (.putfield 60, 3) := by decide +kernel
theorem dX11_state_5 : decode cX11_state 5 = .ok (.aload_n 0, 1) := by decide +kernel
theorem dX11_state_6 : decode cX11_state 6 = .ok (.getfield 74, 3) := by decide +kernel
theorem dX11_state_9 : decode cX11_state 9 = .ok (.ireturn, 1) := by decide +kernel
theorem dX11_register_0 : decode cX11_register 0 = .ok (.aload_n 0, 1) := by decide +kernel
theorem dX11_register_1 : decode cX11_register 1 = .ok (.iload_n 1, 1) := by decide +kernel
theorem dX11_register_2 : decode cX11_register 2 = .ok (.ifCond .lt 9, 3) := by decide +kernel
theorem dX11_register_5 : decode cX11_register 5 = .ok (.iload_n 1, 1) := by decide +kernel
theorem dX11_register_6 : decode cX11_register 6 = .ok (.bipush 11, 2) := by decide +kernel
theorem dX11_register_8 : decode cX11_register 8 = .ok (.if_icmp .le 7, 3) := by decide +kernel
theorem dX11_register_11 : decode cX11_register 11 = .ok (.iconst 1, 1) := by decide +kernel
theorem dX11_register_12 : decode cX11_register 12 = .ok (.goto 4, 3) := by decide +kernel
theorem dX11_register_15 : decode cX11_register 15 = .ok (.iconst 0, 1) := by decide +kernel
theorem dX11_register_16 : decode cX11_register 16 = .ok (.putfield 60, 3) := by decide +kernel
theorem dX11_register_19 : decode cX11_register 19 = .ok (.aload_n 0, 1) := by decide +kernel
theorem dX11_register_20 : decode cX11_register 20 = .ok (.getfield 60, 3) := by decide +kernel
theorem dX11_register_23 : decode cX11_register 23 = .ok (.ifCond .le 5, 3) := by decide +kernel
theorem dX11_register_26 : decode cX11_register 26 = .ok (.iconst 0, 1) := by decide +kernel
theorem dX11_register_27 : decode cX11_register 27 = .ok (.ireturn, 1) := by decide +kernel
theorem dX11_register_28 : decode cX11_register 28 = .ok (.iload_n 1, 1) := by decide +kernel
theorem dX11_register_29 : decode cX11_register 29 = .ok (.bipush 8, 2) := by decide +kernel
theorem dX11_register_31 : decode cX11_register 31 = .ok (.if_icmp .ge 12, 3) := by decide +kernel
theorem dX11_register_34 : decode cX11_register 34 = .ok (.aload_n 0, 1) := by decide +kernel
theorem dX11_register_35 : decode cX11_register 35 = .ok (.getfield 14, 3) := by decide +kernel
theorem dX11_register_38 : decode cX11_register 38 = .ok (.iload_n 1, 1) := by decide +kernel
theorem dX11_register_39 : decode cX11_register 39 = .ok (.iaload, 1) := by decide +kernel
theorem dX11_register_40 : decode cX11_register 40 = .ok (.goto 46, 3) := by decide +kernel
theorem dX11_register_43 : decode cX11_register 43 = .ok (.iload_n 1, 1) := by decide +kernel
theorem dX11_register_44 : decode cX11_register 44 = .ok (.bipush 8, 2) := by decide +kernel
theorem dX11_register_46 : decode cX11_register 46 = .ok (.if_icmp .ne 10, 3) := by decide +kernel
theorem dX11_register_49 : decode cX11_register 49 = .ok (.aload_n 0, 1) := by decide +kernel
theorem dX11_register_50 : decode cX11_register 50 = .ok (.getfield 57, 3) := by decide +kernel
theorem dX11_register_53 : decode cX11_register 53 = .ok (.goto 33, 3) := by decide +kernel
theorem dX11_register_56 : decode cX11_register 56 = .ok (.iload_n 1, 1) := by decide +kernel
theorem dX11_register_57 : decode cX11_register 57 = .ok (.bipush 9, 2) := by decide +kernel
theorem dX11_register_59 : decode cX11_register 59 = .ok (.if_icmp .ne 10, 3) := by decide +kernel
theorem dX11_register_62 : decode cX11_register 62 = .ok (.aload_n 0, 1) := by decide +kernel
theorem dX11_register_63 : decode cX11_register 63 = .ok (.getfield 64, 3) := by decide +kernel
theorem dX11_register_66 : decode cX11_register 66 = .ok (.goto 20, 3) := by decide +kernel
theorem dX11_register_69 : decode cX11_register 69 = .ok (.iload_n 1, 1) := by decide +kernel
theorem dX11_register_70 : decode cX11_register 70 = .ok (.bipush 10, 2) := by decide +kernel
theorem dX11_register_72 : decode cX11_register 72 = .ok (.if_icmp .ne 10, 3) := by decide +kernel
theorem dX11_register_75 : decode cX11_register 75 = .ok (.aload_n 0, 1) := by decide +kernel
theorem dX11_register_76 : decode cX11_register 76 = .ok (.getfield 67, 3) := by decide +kernel
theorem dX11_register_79 : decode cX11_register 79 = .ok (.goto 7, 3) := by decide +kernel
theorem dX11_register_82 : decode cX11_register 82 = .ok (.aload_n 0, 1) := by decide +kernel
theorem dX11_register_83 : decode cX11_register 83 = .ok (.getfield 71, 3) := by decide +kernel
theorem dX11_register_86 : decode cX11_register 86 = .ok (.ireturn, 1) := by decide +kernel
theorem dX11_set_0 : decode cX11_set 0 = .ok (.aload_n 0, 1) := by decide +kernel
theorem dX11_set_1 : decode cX11_set 1 = .ok (.iconst 0, 1) := by decide +kernel
theorem dX11_set_2 : decode cX11_set 2 = .ok (.putfield 60, 3) := by decide +kernel
theorem dX11_set_5 : decode cX11_set 5 = .ok (.iload_n 1, 1) := by decide +kernel
theorem dX11_set_6 : decode cX11_set 6 = .ok (.ifCond .lt 9, 3) := by decide +kernel
theorem dX11_set_9 : decode cX11_set 9 = .ok (.iload_n 1, 1) := by decide +kernel
theorem dX11_set_10 : decode cX11_set 10 = .ok (.bipush 11, 2) := by decide +kernel
theorem dX11_set_12 : decode cX11_set 12 = .ok (.if_icmp .le 5, 3) := by decide +kernel
theorem dX11_set_15 : decode cX11_set 15 = .ok (.iconst 0, 1) := by decide +kernel
theorem dX11_set_16 : decode cX11_set 16 = .ok (.ireturn, 1) := by decide +kernel
theorem dX11_set_17 : decode cX11_set 17 = .ok (.iload_n 1, 1) := by decide +kernel
theorem dX11_set_18 : decode cX11_set 18 = .ok (.bipush 8, 2) := by decide +kernel
theorem dX11_set_20 : decode cX11_set 20 = .ok (.if_icmp .ge 16, 3) := by decide +kernel
theorem dX11_set_23 : decode cX11_set 23 = .ok (.aload_n 0, 1) := by decide +kernel
theorem dX11_set_24 : decode cX11_set 24 = .ok (.getfield 14, 3) := by decide +kernel
theorem dX11_set_27 : decode cX11_set 27 = .ok (.iload_n 1, 1) := by decide +kernel
theorem dX11_set_28 : decode cX11_set 28 = .ok (.iload_n 2, 1) := by decide +kernel
theorem dX11_set_29 : decode cX11_set 29 = .ok (.invokestatic 93, 3) := by decide +kernel
theorem dX11_set_32 : decode cX11_set 32 = .ok (.iastore, 1) := by decide +kernel
theorem dX11_set_33 : decode cX11_set 33 = .ok (.goto 62, 3) := by decide +kernel
theorem dX11_set_36 : decode cX11_set 36 = .ok (.iload_n 1, 1) := by decide +kernel
theorem dX11_set_37 : decode cX11_set 37 = .ok (.bipush 8, 2) := by decide +kernel
theorem dX11_set_39 : decode cX11_set 39 = .ok (.if_icmp .ne 14, 3) := by decide +kernel
theorem dX11_set_42 : decode cX11_set 42 = .ok (.aload_n 0, 1) := by decide +kernel
theorem dX11_set_43 : decode cX11_set 43 = .ok (.iload_n 2, 1) := by decide +kernel
theorem dX11_set_44 : decode cX11_set 44 = .ok (.invokestatic 93, 3) := by decide +kernel
theorem dX11_set_47 : decode cX11_set 47 = .ok (.putfield 57, 3) := by decide +kernel
theorem dX11_set_50 : decode cX11_set 50 = .ok (.goto 45, 3) := by decide +kernel
theorem dX11_set_53 : decode cX11_set 53 = .ok (.iload_n 1, 1) := by decide +kernel
theorem dX11_set_54 : decode cX11_set 54 = .ok (.bipush 9, 2) := by decide +kernel
theorem dX11_set_56 : decode cX11_set 56 = .ok (.if_icmp .ne 14, 3) := by decide +kernel
theorem dX11_set_59 : decode cX11_set 59 = .ok (.aload_n 0, 1) := by decide +kernel
theorem dX11_set_60 : decode cX11_set 60 = .ok (.iload_n 2, 1) := by decide +kernel
theorem dX11_set_61 : decode cX11_set 61 = .ok (.ldc 173, 2) := by decide +kernel
theorem dX11_set_63 : decode cX11_set 63 = .ok (.iand, 1) := by decide +kernel
theorem dX11_set_64 : decode cX11_set 64 = .ok (.putfield 64, 3) := by decide +kernel
theorem dX11_set_67 : decode cX11_set 67 = .ok (.goto 28, 3) := by decide +kernel
theorem dX11_set_70 : decode cX11_set 70 = .ok (.iload_n 1, 1) := by decide +kernel
theorem dX11_set_71 : decode cX11_set 71 = .ok (.bipush 10, 2) := by decide +kernel
theorem dX11_set_73 : decode cX11_set 73 = .ok (.if_icmp .ne 14, 3) := by decide +kernel
theorem dX11_set_76 : decode cX11_set 76 = .ok (.aload_n 0, 1) := by decide +kernel
theorem dX11_set_77 : decode cX11_set 77 = .ok (.iload_n 2, 1) := by decide +kernel
theorem dX11_set_78 : decode cX11_set 78 = .ok (.invokestatic 93, 3) := by decide +kernel
theorem dX11_set_81 : decode cX11_set 81 = .ok (.putfield 67, 3) := by decide +kernel
theorem dX11_set_84 : decode cX11_set 84 = .ok (.goto 11, 3) := by decide +kernel
theorem dX11_set_87 : decode cX11_set 87 = .ok (.aload_n 0, 1) := by decide +kernel
theorem dX11_set_88 : decode cX11_set 88 = .ok (.iload_n 2, 1) := by decide +kernel
theorem dX11_set_89 : decode cX11_set 89 = .ok (.invokestatic 93, 3) := by decide +kernel
theorem dX11_set_92 : decode cX11_set 92 = .ok (.putfield 71, 3) := by decide +kernel
theorem dX11_set_95 : decode cX11_set 95 = .ok (.iconst 1, 1) := by decide +kernel
theorem dX11_set_96 : decode cX11_set 96 = .ok (.ireturn, 1) := by decide +kernel
theorem dX11_peek_0 : decode cX11_peek 0 = .ok (.aload_n 0, 1) := by decide +kernel
theorem dX11_peek_1 : decode cX11_peek 1 = .ok (.iconst 0, 1) := by decide +kernel
theorem dX11_peek_2 : decode cX11_peek 2 = .ok (.putfield 60, 3) := by decide +kernel
theorem dX11_peek_5 : decode cX11_peek 5 = .ok (.aload_n 0, 1) := by decide +kernel
theorem dX11_peek_6 : decode cX11_peek 6 = .ok (.iload_n 1, 1) := by decide +kernel
theorem dX11_peek_7 : decode cX11_peek 7 = .ok (.invokestatic 93, 3) := by decide +kernel
theorem dX11_peek_10 : decode cX11_peek 10 = .ok (.invokevirtual 97, 3) := by decide +kernel
theorem dX11_peek_13 : decode cX11_peek 13 = .ok (.ireturn, 1) := by decide +kernel
theorem dX11_poke_0 : decode cX11_poke 0 = .ok (.aload_n 0, 1) := by decide +kernel
theorem dX11_poke_1 : decode cX11_poke 1 = .ok (.iconst 0, 1) := by decide +kernel
theorem dX11_poke_2 : decode cX11_poke 2 = .ok (.putfield 60, 3) := by decide +kernel
theorem dX11_poke_5 : decode cX11_poke 5 = .ok (.aload_n 0, 1) := by decide +kernel
theorem dX11_poke_6 : decode cX11_poke 6 = .ok (.getfield 8, 3) := by decide +kernel
theorem dX11_poke_9 : decode cX11_poke 9 = .ok (.iload_n 1, 1) := by decide +kernel
theorem dX11_poke_10 : decode cX11_poke 10 = .ok (.invokestatic 93, 3) := by decide +kernel
theorem dX11_poke_13 : decode cX11_poke 13 = .ok (.iload_n 2, 1) := by decide +kernel
theorem dX11_poke_14 : decode cX11_poke 14 = .ok (.invokestatic 93, 3) := by decide +kernel
theorem dX11_poke_17 : decode cX11_poke 17 = .ok (.iastore, 1) := by decide +kernel
theorem dX11_poke_18 : decode cX11_poke 18 = .ok (.return_, 1) := by decide +kernel
theorem dX11_printed_0 : decode cX11_printed 0 = .ok (.aload_n 0, 1) := by decide +kernel
theorem dX11_printed_1 : decode cX11_printed 1 = .ok (.iconst 0, 1) := by decide +kernel
theorem dX11_printed_2 : decode cX11_printed 2 = .ok (.putfield 60, 3) := by decide +kernel
theorem dX11_printed_5 : decode cX11_printed 5 = .ok (.aload_n 0, 1) := by decide +kernel
theorem dX11_printed_6 : decode cX11_printed 6 = .ok (.getfield 110, 3) := by decide +kernel
theorem dX11_printed_9 : decode cX11_printed 9 = .ok (.ireturn, 1) := by decide +kernel
theorem dX11_count_0 : decode cX11_count 0 = .ok (.aload_n 0, 1) := by decide +kernel
theorem dX11_count_1 : decode cX11_count 1 = .ok (.iload_n 1, 1) := by decide +kernel
theorem dX11_count_2 : decode cX11_count 2 = .ok (.ifCond .lt 8, 3) := by decide +kernel
theorem dX11_count_5 : decode cX11_count 5 = .ok (.iload_n 1, 1) := by decide +kernel
theorem dX11_count_6 : decode cX11_count 6 = .ok (.iconst 4, 1) := by decide +kernel
theorem dX11_count_7 : decode cX11_count 7 = .ok (.if_icmp .le 7, 3) := by decide +kernel
theorem dX11_count_10 : decode cX11_count 10 = .ok (.iconst 1, 1) := by decide +kernel
theorem dX11_count_11 : decode cX11_count 11 = .ok (.goto 4, 3) := by decide +kernel
theorem dX11_count_14 : decode cX11_count 14 = .ok (.iconst 0, 1) := by decide +kernel
theorem dX11_count_15 : decode cX11_count 15 = .ok (.putfield 60, 3) := by decide +kernel
theorem dX11_count_18 : decode cX11_count 18 = .ok (.iload_n 1, 1) := by decide +kernel
theorem dX11_count_19 : decode cX11_count 19 = .ok (.ifCond .ne 10, 3) := by decide +kernel
theorem dX11_count_22 : decode cX11_count 22 = .ok (.aload_n 0, 1) := by decide +kernel
theorem dX11_count_23 : decode cX11_count 23 = .ok (.getfield 138, 3) := by decide +kernel
theorem dX11_count_26 : decode cX11_count 26 = .ok (.goto 52, 3) := by decide +kernel
theorem dX11_count_29 : decode cX11_count 29 = .ok (.iload_n 1, 1) := by decide +kernel
theorem dX11_count_30 : decode cX11_count 30 = .ok (.iconst 1, 1) := by decide +kernel
theorem dX11_count_31 : decode cX11_count 31 = .ok (.if_icmp .ne 10, 3) := by decide +kernel
theorem dX11_count_34 : decode cX11_count 34 = .ok (.aload_n 0, 1) := by decide +kernel
theorem dX11_count_35 : decode cX11_count 35 = .ok (.getfield 141, 3) := by decide +kernel
theorem dX11_count_38 : decode cX11_count 38 = .ok (.goto 40, 3) := by decide +kernel
theorem dX11_count_41 : decode cX11_count 41 = .ok (.iload_n 1, 1) := by decide +kernel
theorem dX11_count_42 : decode cX11_count 42 = .ok (.iconst 2, 1) := by decide +kernel
theorem dX11_count_43 : decode cX11_count 43 = .ok (.if_icmp .ne 10, 3) := by decide +kernel
theorem dX11_count_46 : decode cX11_count 46 = .ok (.aload_n 0, 1) := by decide +kernel
theorem dX11_count_47 : decode cX11_count 47 = .ok (.getfield 132, 3) := by decide +kernel
theorem dX11_count_50 : decode cX11_count 50 = .ok (.goto 28, 3) := by decide +kernel
theorem dX11_count_53 : decode cX11_count 53 = .ok (.iload_n 1, 1) := by decide +kernel
theorem dX11_count_54 : decode cX11_count 54 = .ok (.iconst 3, 1) := by decide +kernel
theorem dX11_count_55 : decode cX11_count 55 = .ok (.if_icmp .ne 10, 3) := by decide +kernel
theorem dX11_count_58 : decode cX11_count 58 = .ok (.aload_n 0, 1) := by decide +kernel
theorem dX11_count_59 : decode cX11_count 59 = .ok (.getfield 174, 3) := by decide +kernel
theorem dX11_count_62 : decode cX11_count 62 = .ok (.goto 16, 3) := by decide +kernel
theorem dX11_count_65 : decode cX11_count 65 = .ok (.iload_n 1, 1) := by decide +kernel
theorem dX11_count_66 : decode cX11_count 66 = .ok (.iconst 4, 1) := by decide +kernel
theorem dX11_count_67 : decode cX11_count 67 = .ok (.if_icmp .ne 10, 3) := by decide +kernel
theorem dX11_count_70 : decode cX11_count 70 = .ok (.aload_n 0, 1) := by decide +kernel
theorem dX11_count_71 : decode cX11_count 71 = .ok (.getfield 84, 3) := by decide +kernel
theorem dX11_count_74 : decode cX11_count 74 = .ok (.goto 4, 3) := by decide +kernel
theorem dX11_count_77 : decode cX11_count 77 = .ok (.iconst 0, 1) := by decide +kernel
theorem dX11_count_78 : decode cX11_count 78 = .ok (.ireturn, 1) := by decide +kernel
theorem dX11_four_0 : decode cX11_four 0 = .ok (.iconst 0, 1) := by decide +kernel
theorem dX11_four_1 : decode cX11_four 1 = .ok (.istore_n 2, 1) := by decide +kernel
theorem dX11_four_2 : decode cX11_four 2 = .ok (.iload_n 2, 1) := by decide +kernel
theorem dX11_four_3 : decode cX11_four 3 = .ok (.iconst 4, 1) := by decide +kernel
theorem dX11_four_4 : decode cX11_four 4 = .ok (.if_icmp .ge 33, 3) := by decide +kernel
theorem dX11_four_7 : decode cX11_four 7 = .ok (.aload_n 0, 1) := by decide +kernel
theorem dX11_four_8 : decode cX11_four 8 = .ok (.getfield 23, 3) := by decide +kernel
theorem dX11_four_11 : decode cX11_four 11 = .ok (.aload_n 0, 1) := by decide +kernel
theorem dX11_four_12 : decode cX11_four 12 = .ok (.getfield 184, 3) := by decide +kernel
theorem dX11_four_15 : decode cX11_four 15 = .ok (.iload_n 2, 1) := by decide +kernel
theorem dX11_four_16 : decode cX11_four 16 = .ok (.iadd, 1) := by decide +kernel
theorem dX11_four_17 : decode cX11_four 17 = .ok (.iload_n 1, 1) := by decide +kernel
theorem dX11_four_18 : decode cX11_four 18 = .ok (.bipush 24, 2) := by decide +kernel
theorem dX11_four_20 : decode cX11_four 20 = .ok (.bipush 8, 2) := by decide +kernel
theorem dX11_four_22 : decode cX11_four 22 = .ok (.iload_n 2, 1) := by decide +kernel
theorem dX11_four_23 : decode cX11_four 23 = .ok (.imul, 1) := by decide +kernel
theorem dX11_four_24 : decode cX11_four 24 = .ok (.isub, 1) := by decide +kernel
theorem dX11_four_25 : decode cX11_four 25 = .ok (.ishr, 1) := by decide +kernel
theorem dX11_four_26 : decode cX11_four 26 = .ok (.sipush 255, 3) := by decide +kernel
theorem dX11_four_29 : decode cX11_four 29 = .ok (.iand, 1) := by decide +kernel
theorem dX11_four_30 : decode cX11_four 30 = .ok (.iastore, 1) := by decide +kernel
theorem dX11_four_31 : decode cX11_four 31 = .ok (.iinc 2 1, 3) := by decide +kernel
theorem dX11_four_34 : decode cX11_four 34 = .ok (.goto (-32), 3) := by decide +kernel
theorem dX11_four_37 : decode cX11_four 37 = .ok (.aload_n 0, 1) := by decide +kernel
theorem dX11_four_38 : decode cX11_four 38 = .ok (.dup, 1) := by decide +kernel
theorem dX11_four_39 : decode cX11_four 39 = .ok (.getfield 184, 3) := by decide +kernel
theorem dX11_four_42 : decode cX11_four 42 = .ok (.iconst 4, 1) := by decide +kernel
theorem dX11_four_43 : decode cX11_four 43 = .ok (.iadd, 1) := by decide +kernel
theorem dX11_four_44 : decode cX11_four 44 = .ok (.putfield 184, 3) := by decide +kernel
theorem dX11_four_47 : decode cX11_four 47 = .ok (.return_, 1) := by decide +kernel
theorem dX11_feed_0 : decode cX11_feed 0 = .ok (.aload_n 0, 1) := by decide +kernel
theorem dX11_feed_1 : decode cX11_feed 1 = .ok (.iconst 0, 1) := by decide +kernel
theorem dX11_feed_2 : decode cX11_feed 2 = .ok (.putfield 60, 3) := by decide +kernel
theorem dX11_feed_5 : decode cX11_feed 5 = .ok (.aload_n 0, 1) := by decide +kernel
theorem dX11_feed_6 : decode cX11_feed 6 = .ok (.getfield 184, 3) := by decide +kernel
theorem dX11_feed_9 : decode cX11_feed 9 = .ok (.bipush 20, 2) := by decide +kernel
theorem dX11_feed_11 : decode cX11_feed 11 = .ok (.iadd, 1) := by decide +kernel
theorem dX11_feed_12 : decode cX11_feed 12 = .ok (.sipush 4000, 3) := by decide +kernel
theorem dX11_feed_15 : decode cX11_feed 15 = .ok (.if_icmp .le 5, 3) := by decide +kernel
theorem dX11_feed_18 : decode cX11_feed 18 = .ok (.iconst (-1), 1) := by decide +kernel
theorem dX11_feed_19 : decode cX11_feed 19 = .ok (.ireturn, 1) := by decide +kernel
theorem dX11_feed_20 : decode cX11_feed 20 = .ok (.aload_n 0, 1) := by decide +kernel
theorem dX11_feed_21 : decode cX11_feed 21 = .ok (.iload_n 1, 1) := by decide +kernel
theorem dX11_feed_22 : decode cX11_feed 22 = .ok (.invokevirtual 187, 3) := by decide +kernel
theorem dX11_feed_25 : decode cX11_feed 25 = .ok (.aload_n 0, 1) := by decide +kernel
theorem dX11_feed_26 : decode cX11_feed 26 = .ok (.iload_n 2, 1) := by decide +kernel
theorem dX11_feed_27 : decode cX11_feed 27 = .ok (.invokevirtual 187, 3) := by decide +kernel
theorem dX11_feed_30 : decode cX11_feed 30 = .ok (.aload_n 0, 1) := by decide +kernel
theorem dX11_feed_31 : decode cX11_feed 31 = .ok (.iload_n 3, 1) := by decide +kernel
theorem dX11_feed_32 : decode cX11_feed 32 = .ok (.invokevirtual 187, 3) := by decide +kernel
theorem dX11_feed_35 : decode cX11_feed 35 = .ok (.aload_n 0, 1) := by decide +kernel
theorem dX11_feed_36 : decode cX11_feed 36 = .ok (.iload 4, 2) := by decide +kernel
theorem dX11_feed_38 : decode cX11_feed 38 = .ok (.invokevirtual 187, 3) := by decide +kernel
theorem dX11_feed_41 : decode cX11_feed 41 = .ok (.aload_n 0, 1) := by decide +kernel
theorem dX11_feed_42 : decode cX11_feed 42 = .ok (.iload 5, 2) := by decide +kernel
theorem dX11_feed_44 : decode cX11_feed 44 = .ok (.invokevirtual 187, 3) := by decide +kernel
theorem dX11_feed_47 : decode cX11_feed 47 = .ok (.aload_n 0, 1) := by decide +kernel
theorem dX11_feed_48 : decode cX11_feed 48 = .ok (.getfield 184, 3) := by decide +kernel
theorem dX11_feed_51 : decode cX11_feed 51 = .ok (.ireturn, 1) := by decide +kernel
theorem dX11_end_0 : decode cX11_end 0 = .ok (.aload_n 0, 1) := by decide +kernel
theorem dX11_end_1 : decode cX11_end 1 = .ok (.iconst 0, 1) := by decide +kernel
theorem dX11_end_2 : decode cX11_end 2 = .ok (.putfield 60, 3) := by decide +kernel
theorem dX11_end_5 : decode cX11_end 5 = .ok (.iload_n 1, 1) := by decide +kernel
theorem dX11_end_6 : decode cX11_end 6 = .ok (.ifCond .lt 11, 3) := by decide +kernel
theorem dX11_end_9 : decode cX11_end 9 = .ok (.iload_n 1, 1) := by decide +kernel
theorem dX11_end_10 : decode cX11_end 10 = .ok (.aload_n 0, 1) := by decide +kernel
theorem dX11_end_11 : decode cX11_end 11 = .ok (.getfield 184, 3) := by decide +kernel
theorem dX11_end_14 : decode cX11_end 14 = .ok (.if_icmp .le 5, 3) := by decide +kernel
theorem dX11_end_17 : decode cX11_end 17 = .ok (.iconst 0, 1) := by decide +kernel
theorem dX11_end_18 : decode cX11_end 18 = .ok (.ireturn, 1) := by decide +kernel
theorem dX11_end_19 : decode cX11_end 19 = .ok (.aload_n 0, 1) := by decide +kernel
theorem dX11_end_20 : decode cX11_end 20 = .ok (.iload_n 1, 1) := by decide +kernel
theorem dX11_end_21 : decode cX11_end 21 = .ok (.putfield 184, 3) := by decide +kernel
theorem dX11_end_24 : decode cX11_end 24 = .ok (.iconst 1, 1) := by decide +kernel
theorem dX11_end_25 : decode cX11_end 25 = .ok (.ireturn, 1) := by decide +kernel
theorem dX11_sign_0 : decode cX11_sign 0 = .ok (.iload_n 1, 1) := by decide +kernel
theorem dX11_sign_1 : decode cX11_sign 1 = .ok (.aload_n 0, 1) := by decide +kernel
theorem dX11_sign_2 : decode cX11_sign 2 = .ok (.getfield 190, 3) := by decide +kernel
theorem dX11_sign_5 : decode cX11_sign 5 = .ok (.if_icmp .ge 12, 3) := by decide +kernel
theorem dX11_sign_8 : decode cX11_sign 8 = .ok (.aload_n 0, 1) := by decide +kernel
theorem dX11_sign_9 : decode cX11_sign 9 = .ok (.getfield 23, 3) := by decide +kernel
theorem dX11_sign_12 : decode cX11_sign 12 = .ok (.iload_n 1, 1) := by decide +kernel
theorem dX11_sign_13 : decode cX11_sign 13 = .ok (.iaload, 1) := by decide +kernel
theorem dX11_sign_14 : decode cX11_sign 14 = .ok (.goto 4, 3) := by decide +kernel
theorem dX11_sign_17 : decode cX11_sign 17 = .ok (.iconst (-1), 1) := by decide +kernel
theorem dX11_sign_18 : decode cX11_sign 18 = .ok (.ireturn, 1) := by decide +kernel
theorem dX11_great_0 : decode cX11_great 0 = .ok (.iload_n 0, 1) := by decide +kernel
theorem dX11_great_1 : decode cX11_great 1 = .ok (.bipush 97, 2) := by decide +kernel
theorem dX11_great_3 : decode cX11_great 3 = .ok (.if_icmp .lt 16, 3) := by decide +kernel
theorem dX11_great_6 : decode cX11_great 6 = .ok (.iload_n 0, 1) := by decide +kernel
theorem dX11_great_7 : decode cX11_great 7 = .ok (.bipush 122, 2) := by decide +kernel
theorem dX11_great_9 : decode cX11_great 9 = .ok (.if_icmp .gt 10, 3) := by decide +kernel
theorem dX11_great_12 : decode cX11_great 12 = .ok (.iload_n 0, 1) := by decide +kernel
theorem dX11_great_13 : decode cX11_great 13 = .ok (.bipush 32, 2) := by decide +kernel
theorem dX11_great_15 : decode cX11_great 15 = .ok (.isub, 1) := by decide +kernel
theorem dX11_great_16 : decode cX11_great 16 = .ok (.goto 4, 3) := by decide +kernel
theorem dX11_great_19 : decode cX11_great 19 = .ok (.iload_n 0, 1) := by decide +kernel
theorem dX11_great_20 : decode cX11_great 20 = .ok (.ireturn, 1) := by decide +kernel
theorem dX11_isLetter_0 : decode cX11_isLetter 0 = .ok (.iload_n 0, 1) := by decide +kernel
theorem dX11_isLetter_1 : decode cX11_isLetter 1 = .ok (.invokestatic 193, 3) := by decide +kernel
theorem dX11_isLetter_4 : decode cX11_isLetter 4 = .ok (.bipush 65, 2) := by decide +kernel
theorem dX11_isLetter_6 : decode cX11_isLetter 6 = .ok (.if_icmp .lt 16, 3) := by decide +kernel
theorem dX11_isLetter_9 : decode cX11_isLetter 9 = .ok (.iload_n 0, 1) := by decide +kernel
theorem dX11_isLetter_10 : decode cX11_isLetter 10 = .ok (.invokestatic 193, 3) := by decide +kernel
theorem dX11_isLetter_13 : decode cX11_isLetter 13 = .ok (.bipush 90, 2) := by decide +kernel
theorem dX11_isLetter_15 : decode cX11_isLetter 15 = .ok (.if_icmp .gt 7, 3) := by decide +kernel
theorem dX11_isLetter_18 : decode cX11_isLetter 18 = .ok (.iconst 1, 1) := by decide +kernel
theorem dX11_isLetter_19 : decode cX11_isLetter 19 = .ok (.goto 4, 3) := by decide +kernel
theorem dX11_isLetter_22 : decode cX11_isLetter 22 = .ok (.iconst 0, 1) := by decide +kernel
theorem dX11_isLetter_23 : decode cX11_isLetter 23 = .ok (.ireturn, 1) := by decide +kernel
theorem dX11_isDigit_0 : decode cX11_isDigit 0 = .ok (.iload_n 0, 1) := by decide +kernel
theorem dX11_isDigit_1 : decode cX11_isDigit 1 = .ok (.bipush 48, 2) := by decide +kernel
theorem dX11_isDigit_3 : decode cX11_isDigit 3 = .ok (.if_icmp .lt 13, 3) := by decide +kernel
theorem dX11_isDigit_6 : decode cX11_isDigit 6 = .ok (.iload_n 0, 1) := by decide +kernel
theorem dX11_isDigit_7 : decode cX11_isDigit 7 = .ok (.bipush 57, 2) := by decide +kernel
theorem dX11_isDigit_9 : decode cX11_isDigit 9 = .ok (.if_icmp .gt 7, 3) := by decide +kernel
theorem dX11_isDigit_12 : decode cX11_isDigit 12 = .ok (.iconst 1, 1) := by decide +kernel
theorem dX11_isDigit_13 : decode cX11_isDigit 13 = .ok (.goto 4, 3) := by decide +kernel
theorem dX11_isDigit_16 : decode cX11_isDigit 16 = .ok (.iconst 0, 1) := by decide +kernel
theorem dX11_isDigit_17 : decode cX11_isDigit 17 = .ok (.ireturn, 1) := by decide +kernel
theorem dX11_isOfWord_0 : decode cX11_isOfWord 0 = .ok (.iload_n 0, 1) := by decide +kernel
theorem dX11_isOfWord_1 : decode cX11_isOfWord 1 = .ok (.invokestatic 196, 3) := by decide +kernel
theorem dX11_isOfWord_4 : decode cX11_isOfWord 4 = .ok (.ifCond .ne 34, 3) := by decide +kernel
theorem dX11_isOfWord_7 : decode cX11_isOfWord 7 = .ok (.iload_n 0, 1) := by decide +kernel
theorem dX11_isOfWord_8 : decode cX11_isOfWord 8 = .ok (.invokestatic 199, 3) := by decide +kernel
theorem dX11_isOfWord_11 : decode cX11_isOfWord 11 = .ok (.ifCond .ne 27, 3) := by decide +kernel
theorem dX11_isOfWord_14 : decode cX11_isOfWord 14 = .ok (.iload_n 0, 1) := by decide +kernel
theorem dX11_isOfWord_15 : decode cX11_isOfWord 15 = .ok (.bipush 95, 2) := by decide +kernel
theorem dX11_isOfWord_17 : decode cX11_isOfWord 17 = .ok (.if_icmp .eq 21, 3) := by decide +kernel
theorem dX11_isOfWord_20 : decode cX11_isOfWord 20 = .ok (.iload_n 0, 1) := by decide +kernel
theorem dX11_isOfWord_21 : decode cX11_isOfWord 21 = .ok (.bipush 46, 2) := by decide +kernel
theorem dX11_isOfWord_23 : decode cX11_isOfWord 23 = .ok (.if_icmp .eq 15, 3) := by decide +kernel
theorem dX11_isOfWord_26 : decode cX11_isOfWord 26 = .ok (.iload_n 0, 1) := by decide +kernel
theorem dX11_isOfWord_27 : decode cX11_isOfWord 27 = .ok (.bipush 35, 2) := by decide +kernel
theorem dX11_isOfWord_29 : decode cX11_isOfWord 29 = .ok (.if_icmp .eq 9, 3) := by decide +kernel
theorem dX11_isOfWord_32 : decode cX11_isOfWord 32 = .ok (.iload_n 0, 1) := by decide +kernel
theorem dX11_isOfWord_33 : decode cX11_isOfWord 33 = .ok (.bipush 45, 2) := by decide +kernel
theorem dX11_isOfWord_35 : decode cX11_isOfWord 35 = .ok (.if_icmp .ne 7, 3) := by decide +kernel
theorem dX11_isOfWord_38 : decode cX11_isOfWord 38 = .ok (.iconst 1, 1) := by decide +kernel
theorem dX11_isOfWord_39 : decode cX11_isOfWord 39 = .ok (.goto 4, 3) := by decide +kernel
theorem dX11_isOfWord_42 : decode cX11_isOfWord 42 = .ok (.iconst 0, 1) := by decide +kernel
theorem dX11_isOfWord_43 : decode cX11_isOfWord 43 = .ok (.ireturn, 1) := by decide +kernel
theorem dX11_isBlank_0 : decode cX11_isBlank 0 = .ok (.iload_n 0, 1) := by decide +kernel
theorem dX11_isBlank_1 : decode cX11_isBlank 1 = .ok (.bipush 9, 2) := by decide +kernel
theorem dX11_isBlank_3 : decode cX11_isBlank 3 = .ok (.if_icmp .eq 21, 3) := by decide +kernel
theorem dX11_isBlank_6 : decode cX11_isBlank 6 = .ok (.iload_n 0, 1) := by decide +kernel
theorem dX11_isBlank_7 : decode cX11_isBlank 7 = .ok (.bipush 13, 2) := by decide +kernel
theorem dX11_isBlank_9 : decode cX11_isBlank 9 = .ok (.if_icmp .eq 15, 3) := by decide +kernel
theorem dX11_isBlank_12 : decode cX11_isBlank 12 = .ok (.iload_n 0, 1) := by decide +kernel
theorem dX11_isBlank_13 : decode cX11_isBlank 13 = .ok (.bipush 32, 2) := by decide +kernel
theorem dX11_isBlank_15 : decode cX11_isBlank 15 = .ok (.if_icmp .eq 9, 3) := by decide +kernel
theorem dX11_isBlank_18 : decode cX11_isBlank 18 = .ok (.iload_n 0, 1) := by decide +kernel
theorem dX11_isBlank_19 : decode cX11_isBlank 19 = .ok (.bipush 44, 2) := by decide +kernel
theorem dX11_isBlank_21 : decode cX11_isBlank 21 = .ok (.if_icmp .ne 7, 3) := by decide +kernel
theorem dX11_isBlank_24 : decode cX11_isBlank 24 = .ok (.iconst 1, 1) := by decide +kernel
theorem dX11_isBlank_25 : decode cX11_isBlank 25 = .ok (.goto 4, 3) := by decide +kernel
theorem dX11_isBlank_28 : decode cX11_isBlank 28 = .ok (.iconst 0, 1) := by decide +kernel
theorem dX11_isBlank_29 : decode cX11_isBlank 29 = .ok (.ireturn, 1) := by decide +kernel
theorem dX11_next_0 : decode cX11_next 0 = .ok (.aload_n 0, 1) := by decide +kernel
theorem dX11_next_1 : decode cX11_next 1 = .ok (.aload_n 0, 1) := by decide +kernel
theorem dX11_next_2 : decode cX11_next 2 = .ok (.getfield 202, 3) := by decide +kernel
theorem dX11_next_5 : decode cX11_next 5 = .ok (.invokevirtual 205, 3) := by decide +kernel
theorem dX11_next_8 : decode cX11_next 8 = .ok (.invokestatic 208, 3) := by decide +kernel
theorem dX11_next_11 : decode cX11_next 11 = .ok (.ifCond .eq 16, 3) := by decide +kernel
theorem dX11_next_14 : decode cX11_next 14 = .ok (.aload_n 0, 1) := by decide +kernel
theorem dX11_next_15 : decode cX11_next 15 = .ok (.dup, 1) := by decide +kernel
theorem dX11_next_16 : decode cX11_next 16 = .ok (.getfield 202, 3) := by decide +kernel
theorem dX11_next_19 : decode cX11_next 19 = .ok (.iconst 1, 1) := by decide +kernel
theorem dX11_next_20 : decode cX11_next 20 = .ok (.iadd, 1) := by decide +kernel
theorem dX11_next_21 : decode cX11_next 21 = .ok (.putfield 202, 3) := by decide +kernel
theorem dX11_next_24 : decode cX11_next 24 = .ok (.goto (-24), 3) := by decide +kernel
theorem dX11_next_27 : decode cX11_next 27 = .ok (.aload_n 0, 1) := by decide +kernel
theorem dX11_next_28 : decode cX11_next 28 = .ok (.aload_n 0, 1) := by decide +kernel
theorem dX11_next_29 : decode cX11_next 29 = .ok (.getfield 202, 3) := by decide +kernel
theorem dX11_next_32 : decode cX11_next 32 = .ok (.invokevirtual 205, 3) := by decide +kernel
theorem dX11_next_35 : decode cX11_next 35 = .ok (.bipush 59, 2) := by decide +kernel
theorem dX11_next_37 : decode cX11_next 37 = .ok (.if_icmp .ne 40, 3) := by decide +kernel
theorem dX11_next_40 : decode cX11_next 40 = .ok (.aload_n 0, 1) := by decide +kernel
theorem dX11_next_41 : decode cX11_next 41 = .ok (.getfield 202, 3) := by decide +kernel
theorem dX11_next_44 : decode cX11_next 44 = .ok (.aload_n 0, 1) := by decide +kernel
theorem dX11_next_45 : decode cX11_next 45 = .ok (.getfield 190, 3) := by decide +kernel
theorem dX11_next_48 : decode cX11_next 48 = .ok (.if_icmp .ge 29, 3) := by decide +kernel
theorem dX11_next_51 : decode cX11_next 51 = .ok (.aload_n 0, 1) := by decide +kernel
theorem dX11_next_52 : decode cX11_next 52 = .ok (.aload_n 0, 1) := by decide +kernel
theorem dX11_next_53 : decode cX11_next 53 = .ok (.getfield 202, 3) := by decide +kernel
theorem dX11_next_56 : decode cX11_next 56 = .ok (.invokevirtual 205, 3) := by decide +kernel
theorem dX11_next_59 : decode cX11_next 59 = .ok (.bipush 10, 2) := by decide +kernel
theorem dX11_next_61 : decode cX11_next 61 = .ok (.if_icmp .eq 16, 3) := by decide +kernel
theorem dX11_next_64 : decode cX11_next 64 = .ok (.aload_n 0, 1) := by decide +kernel
theorem dX11_next_65 : decode cX11_next 65 = .ok (.dup, 1) := by decide +kernel
theorem dX11_next_66 : decode cX11_next 66 = .ok (.getfield 202, 3) := by decide +kernel
theorem dX11_next_69 : decode cX11_next 69 = .ok (.iconst 1, 1) := by decide +kernel
theorem dX11_next_70 : decode cX11_next 70 = .ok (.iadd, 1) := by decide +kernel
theorem dX11_next_71 : decode cX11_next 71 = .ok (.putfield 202, 3) := by decide +kernel
theorem dX11_next_74 : decode cX11_next 74 = .ok (.goto (-34), 3) := by decide +kernel
theorem dX11_next_77 : decode cX11_next 77 = .ok (.aload_n 0, 1) := by decide +kernel
theorem dX11_next_78 : decode cX11_next 78 = .ok (.aload_n 0, 1) := by decide +kernel
theorem dX11_next_79 : decode cX11_next 79 = .ok (.getfield 202, 3) := by decide +kernel
theorem dX11_next_82 : decode cX11_next 82 = .ok (.putfield 211, 3) := by decide +kernel
theorem dX11_next_85 : decode cX11_next 85 = .ok (.aload_n 0, 1) := by decide +kernel
theorem dX11_next_86 : decode cX11_next 86 = .ok (.getfield 202, 3) := by decide +kernel
theorem dX11_next_89 : decode cX11_next 89 = .ok (.aload_n 0, 1) := by decide +kernel
theorem dX11_next_90 : decode cX11_next 90 = .ok (.getfield 190, 3) := by decide +kernel
theorem dX11_next_93 : decode cX11_next 93 = .ok (.if_icmp .ge 16, 3) := by decide +kernel
theorem dX11_next_96 : decode cX11_next 96 = .ok (.aload_n 0, 1) := by decide +kernel
theorem dX11_next_97 : decode cX11_next 97 = .ok (.aload_n 0, 1) := by decide +kernel
theorem dX11_next_98 : decode cX11_next 98 = .ok (.getfield 202, 3) := by decide +kernel
theorem dX11_next_101 : decode cX11_next 101 = .ok (.invokevirtual 205, 3) := by decide +kernel
theorem dX11_next_104 : decode cX11_next 104 = .ok (.bipush 10, 2) := by decide +kernel
theorem dX11_next_106 : decode cX11_next 106 = .ok (.if_icmp .ne 11, 3) := by decide +kernel
theorem dX11_next_109 : decode cX11_next 109 = .ok (.aload_n 0, 1) := by decide +kernel
theorem dX11_next_110 : decode cX11_next 110 = .ok (.iconst 0, 1) := by decide +kernel
theorem dX11_next_111 : decode cX11_next 111 = .ok (.putfield 214, 3) := by decide +kernel
theorem dX11_next_114 : decode cX11_next 114 = .ok (.goto 89, 3) := by decide +kernel
theorem dX11_next_117 : decode cX11_next 117 = .ok (.aload_n 0, 1) := by decide +kernel
theorem dX11_next_118 : decode cX11_next 118 = .ok (.aload_n 0, 1) := by decide +kernel
theorem dX11_next_119 : decode cX11_next 119 = .ok (.getfield 202, 3) := by decide +kernel
theorem dX11_next_122 : decode cX11_next 122 = .ok (.invokevirtual 205, 3) := by decide +kernel
theorem dX11_next_125 : decode cX11_next 125 = .ok (.invokestatic 217, 3) := by decide +kernel
theorem dX11_next_128 : decode cX11_next 128 = .ok (.ifCond .eq 38, 3) := by decide +kernel
theorem dX11_next_131 : decode cX11_next 131 = .ok (.aload_n 0, 1) := by decide +kernel
theorem dX11_next_132 : decode cX11_next 132 = .ok (.aload_n 0, 1) := by decide +kernel
theorem dX11_next_133 : decode cX11_next 133 = .ok (.getfield 202, 3) := by decide +kernel
theorem dX11_next_136 : decode cX11_next 136 = .ok (.invokevirtual 205, 3) := by decide +kernel
theorem dX11_next_139 : decode cX11_next 139 = .ok (.invokestatic 217, 3) := by decide +kernel
theorem dX11_next_142 : decode cX11_next 142 = .ok (.ifCond .eq 16, 3) := by decide +kernel
theorem dX11_next_145 : decode cX11_next 145 = .ok (.aload_n 0, 1) := by decide +kernel
theorem dX11_next_146 : decode cX11_next 146 = .ok (.dup, 1) := by decide +kernel
theorem dX11_next_147 : decode cX11_next 147 = .ok (.getfield 202, 3) := by decide +kernel
theorem dX11_next_150 : decode cX11_next 150 = .ok (.iconst 1, 1) := by decide +kernel
theorem dX11_next_151 : decode cX11_next 151 = .ok (.iadd, 1) := by decide +kernel
theorem dX11_next_152 : decode cX11_next 152 = .ok (.putfield 202, 3) := by decide +kernel
theorem dX11_next_155 : decode cX11_next 155 = .ok (.goto (-24), 3) := by decide +kernel
theorem dX11_next_158 : decode cX11_next 158 = .ok (.aload_n 0, 1) := by decide +kernel
theorem dX11_next_159 : decode cX11_next 159 = .ok (.iconst 1, 1) := by decide +kernel
theorem dX11_next_160 : decode cX11_next 160 = .ok (.putfield 214, 3) := by decide +kernel
theorem dX11_next_163 : decode cX11_next 163 = .ok (.goto 40, 3) := by decide +kernel
theorem dX11_next_166 : decode cX11_next 166 = .ok (.aload_n 0, 1) := by decide +kernel
theorem dX11_next_167 : decode cX11_next 167 = .ok (.aload_n 0, 1) := by decide +kernel
theorem dX11_next_168 : decode cX11_next 168 = .ok (.getfield 202, 3) := by decide +kernel
theorem dX11_next_171 : decode cX11_next 171 = .ok (.invokevirtual 205, 3) := by decide +kernel
theorem dX11_next_174 : decode cX11_next 174 = .ok (.bipush 34, 2) := by decide +kernel
theorem dX11_next_176 : decode cX11_next 176 = .ok (.if_icmp .ne 22, 3) := by decide +kernel
theorem dX11_next_179 : decode cX11_next 179 = .ok (.aload_n 0, 1) := by decide +kernel
theorem dX11_next_180 : decode cX11_next 180 = .ok (.aload_n 0, 1) := by decide +kernel
theorem dX11_next_181 : decode cX11_next 181 = .ok (.invokevirtual 220, 3) := by decide +kernel
theorem dX11_next_184 : decode cX11_next 184 = .ok (.ifCond .eq 7, 3) := by decide +kernel
theorem dX11_next_187 : decode cX11_next 187 = .ok (.iconst 2, 1) := by decide +kernel
theorem dX11_next_188 : decode cX11_next 188 = .ok (.goto 4, 3) := by decide +kernel
theorem dX11_next_191 : decode cX11_next 191 = .ok (.iconst 3, 1) := by decide +kernel
theorem dX11_next_192 : decode cX11_next 192 = .ok (.putfield 214, 3) := by decide +kernel
theorem dX11_next_195 : decode cX11_next 195 = .ok (.goto 8, 3) := by decide +kernel
theorem dX11_next_198 : decode cX11_next 198 = .ok (.aload_n 0, 1) := by decide +kernel
theorem dX11_next_199 : decode cX11_next 199 = .ok (.iconst 3, 1) := by decide +kernel
theorem dX11_next_200 : decode cX11_next 200 = .ok (.putfield 214, 3) := by decide +kernel
theorem dX11_next_203 : decode cX11_next 203 = .ok (.aload_n 0, 1) := by decide +kernel
theorem dX11_next_204 : decode cX11_next 204 = .ok (.aload_n 0, 1) := by decide +kernel
theorem dX11_next_205 : decode cX11_next 205 = .ok (.getfield 202, 3) := by decide +kernel
theorem dX11_next_208 : decode cX11_next 208 = .ok (.putfield 223, 3) := by decide +kernel
theorem dX11_next_211 : decode cX11_next 211 = .ok (.return_, 1) := by decide +kernel
theorem dX11_isText_0 : decode cX11_isText 0 = .ok (.aload_n 0, 1) := by decide +kernel
theorem dX11_isText_1 : decode cX11_isText 1 = .ok (.iconst 0, 1) := by decide +kernel
theorem dX11_isText_2 : decode cX11_isText 2 = .ok (.putfield 226, 3) := by decide +kernel
theorem dX11_isText_5 : decode cX11_isText 5 = .ok (.aload_n 0, 1) := by decide +kernel
theorem dX11_isText_6 : decode cX11_isText 6 = .ok (.getfield 202, 3) := by decide +kernel
theorem dX11_isText_9 : decode cX11_isText 9 = .ok (.iconst 1, 1) := by decide +kernel
theorem dX11_isText_10 : decode cX11_isText 10 = .ok (.iadd, 1) := by decide +kernel
theorem dX11_isText_11 : decode cX11_isText 11 = .ok (.istore_n 1, 1) := by decide +kernel
theorem dX11_isText_12 : decode cX11_isText 12 = .ok (.aload_n 0, 1) := by decide +kernel
theorem dX11_isText_13 : decode cX11_isText 13 = .ok (.iload_n 1, 1) := by decide +kernel
theorem dX11_isText_14 : decode cX11_isText 14 = .ok (.invokevirtual 205, 3) := by decide +kernel
theorem dX11_isText_17 : decode cX11_isText 17 = .ok (.bipush 34, 2) := by decide +kernel
theorem dX11_isText_19 : decode cX11_isText 19 = .ok (.if_icmp .eq 139, 3) := by decide +kernel
theorem dX11_isText_22 : decode cX11_isText 22 = .ok (.aload_n 0, 1) := by decide +kernel
theorem dX11_isText_23 : decode cX11_isText 23 = .ok (.iload_n 1, 1) := by decide +kernel
theorem dX11_isText_24 : decode cX11_isText 24 = .ok (.invokevirtual 205, 3) := by decide +kernel
theorem dX11_isText_27 : decode cX11_isText 27 = .ok (.istore_n 2, 1) := by decide +kernel
theorem dX11_isText_28 : decode cX11_isText 28 = .ok (.iload_n 2, 1) := by decide +kernel
theorem dX11_isText_29 : decode cX11_isText 29 = .ok (.bipush 32, 2) := by decide +kernel
theorem dX11_isText_31 : decode cX11_isText 31 = .ok (.if_icmp .lt 9, 3) := by decide +kernel
theorem dX11_isText_34 : decode cX11_isText 34 = .ok (.iload_n 2, 1) := by decide +kernel
theorem dX11_isText_35 : decode cX11_isText 35 = .ok (.bipush 126, 2) := by decide +kernel
theorem dX11_isText_37 : decode cX11_isText 37 = .ok (.if_icmp .le 5, 3) := by decide +kernel
theorem dX11_isText_40 : decode cX11_isText 40 = .ok (.iconst 0, 1) := by decide +kernel
theorem dX11_isText_41 : decode cX11_isText 41 = .ok (.ireturn, 1) := by decide +kernel
theorem dX11_isText_42 : decode cX11_isText 42 = .ok (.iload_n 2, 1) := by decide +kernel
theorem dX11_isText_43 : decode cX11_isText 43 = .ok (.bipush 92, 2) := by decide +kernel
theorem dX11_isText_45 : decode cX11_isText 45 = .ok (.if_icmp .ne 80, 3) := by decide +kernel
theorem dX11_isText_48 : decode cX11_isText 48 = .ok (.iinc 1 1, 3) := by decide +kernel
theorem dX11_isText_51 : decode cX11_isText 51 = .ok (.aload_n 0, 1) := by decide +kernel
theorem dX11_isText_52 : decode cX11_isText 52 = .ok (.iload_n 1, 1) := by decide +kernel
theorem dX11_isText_53 : decode cX11_isText 53 = .ok (.invokevirtual 205, 3) := by decide +kernel
theorem dX11_isText_56 : decode cX11_isText 56 = .ok (.bipush 110, 2) := by decide +kernel
theorem dX11_isText_58 : decode cX11_isText 58 = .ok (.if_icmp .ne 8, 3) := by decide +kernel
theorem dX11_isText_61 : decode cX11_isText 61 = .ok (.bipush 10, 2) := by decide +kernel
theorem dX11_isText_63 : decode cX11_isText 63 = .ok (.goto 61, 3) := by decide +kernel
theorem dX11_isText_66 : decode cX11_isText 66 = .ok (.aload_n 0, 1) := by decide +kernel
theorem dX11_isText_67 : decode cX11_isText 67 = .ok (.iload_n 1, 1) := by decide +kernel
theorem dX11_isText_68 : decode cX11_isText 68 = .ok (.invokevirtual 205, 3) := by decide +kernel
theorem dX11_isText_71 : decode cX11_isText 71 = .ok (.bipush 116, 2) := by decide +kernel
theorem dX11_isText_73 : decode cX11_isText 73 = .ok (.if_icmp .ne 8, 3) := by decide +kernel
theorem dX11_isText_76 : decode cX11_isText 76 = .ok (.bipush 9, 2) := by decide +kernel
theorem dX11_isText_78 : decode cX11_isText 78 = .ok (.goto 46, 3) := by decide +kernel
theorem dX11_isText_81 : decode cX11_isText 81 = .ok (.aload_n 0, 1) := by decide +kernel
theorem dX11_isText_82 : decode cX11_isText 82 = .ok (.iload_n 1, 1) := by decide +kernel
theorem dX11_isText_83 : decode cX11_isText 83 = .ok (.invokevirtual 205, 3) := by decide +kernel
theorem dX11_isText_86 : decode cX11_isText 86 = .ok (.bipush 48, 2) := by decide +kernel
theorem dX11_isText_88 : decode cX11_isText 88 = .ok (.if_icmp .ne 7, 3) := by decide +kernel
theorem dX11_isText_91 : decode cX11_isText 91 = .ok (.iconst 0, 1) := by decide +kernel
theorem dX11_isText_92 : decode cX11_isText 92 = .ok (.goto 32, 3) := by decide +kernel
theorem dX11_isText_95 : decode cX11_isText 95 = .ok (.aload_n 0, 1) := by decide +kernel
theorem dX11_isText_96 : decode cX11_isText 96 = .ok (.iload_n 1, 1) := by decide +kernel
theorem dX11_isText_97 : decode cX11_isText 97 = .ok (.invokevirtual 205, 3) := by decide +kernel
theorem dX11_isText_100 : decode cX11_isText 100 = .ok (.bipush 34, 2) := by decide +kernel
theorem dX11_isText_102 : decode cX11_isText 102 = .ok (.if_icmp .eq 13, 3) := by decide +kernel
theorem dX11_isText_105 : decode cX11_isText 105 = .ok (.aload_n 0, 1) := by decide +kernel
theorem dX11_isText_106 : decode cX11_isText 106 = .ok (.iload_n 1, 1) := by decide +kernel
theorem dX11_isText_107 : decode cX11_isText 107 = .ok (.invokevirtual 205, 3) := by decide +kernel
theorem dX11_isText_110 : decode cX11_isText 110 = .ok (.bipush 92, 2) := by decide +kernel
theorem dX11_isText_112 : decode cX11_isText 112 = .ok (.if_icmp .ne 11, 3) := by decide +kernel
theorem dX11_isText_115 : decode cX11_isText 115 = .ok (.aload_n 0, 1) := by decide +kernel
theorem dX11_isText_116 : decode cX11_isText 116 = .ok (.iload_n 1, 1) := by decide +kernel
theorem dX11_isText_117 : decode cX11_isText 117 = .ok (.invokevirtual 205, 3) := by decide +kernel
theorem dX11_isText_120 : decode cX11_isText 120 = .ok (.goto 4, 3) := by decide +kernel
theorem dX11_isText_123 : decode cX11_isText 123 = .ok (.iconst (-1), 1) := by decide +kernel
theorem dX11_isText_124 : decode cX11_isText 124 = .ok (.istore_n 2, 1) := by decide +kernel
theorem dX11_isText_125 : decode cX11_isText 125 = .ok (.iload_n 2, 1) := by decide +kernel
theorem dX11_isText_126 : decode cX11_isText 126 = .ok (.iconst (-1), 1) := by decide +kernel
theorem dX11_isText_127 : decode cX11_isText 127 = .ok (.if_icmp .ne 5, 3) := by decide +kernel
theorem dX11_isText_130 : decode cX11_isText 130 = .ok (.iconst 0, 1) := by decide +kernel
theorem dX11_isText_131 : decode cX11_isText 131 = .ok (.ireturn, 1) := by decide +kernel
theorem dX11_isText_132 : decode cX11_isText 132 = .ok (.aload_n 0, 1) := by decide +kernel
theorem dX11_isText_133 : decode cX11_isText 133 = .ok (.getfield 51, 3) := by decide +kernel
theorem dX11_isText_136 : decode cX11_isText 136 = .ok (.aload_n 0, 1) := by decide +kernel
theorem dX11_isText_137 : decode cX11_isText 137 = .ok (.getfield 226, 3) := by decide +kernel
theorem dX11_isText_140 : decode cX11_isText 140 = .ok (.iload_n 2, 1) := by decide +kernel
theorem dX11_isText_141 : decode cX11_isText 141 = .ok (.iastore, 1) := by decide +kernel
theorem dX11_isText_142 : decode cX11_isText 142 = .ok (.aload_n 0, 1) := by decide +kernel
theorem dX11_isText_143 : decode cX11_isText 143 = .ok (.dup, 1) := by decide +kernel
theorem dX11_isText_144 : decode cX11_isText 144 = .ok (.getfield 226, 3) := by decide +kernel
theorem dX11_isText_147 : decode cX11_isText 147 = .ok (.iconst 1, 1) := by decide +kernel
theorem dX11_isText_148 : decode cX11_isText 148 = .ok (.iadd, 1) := by decide +kernel
theorem dX11_isText_149 : decode cX11_isText 149 = .ok (.putfield 226, 3) := by decide +kernel
theorem dX11_isText_152 : decode cX11_isText 152 = .ok (.iinc 1 1, 3) := by decide +kernel
theorem dX11_isText_155 : decode cX11_isText 155 = .ok (.goto (-143), 3) := by decide +kernel
theorem dX11_isText_158 : decode cX11_isText 158 = .ok (.aload_n 0, 1) := by decide +kernel
theorem dX11_isText_159 : decode cX11_isText 159 = .ok (.iload_n 1, 1) := by decide +kernel
theorem dX11_isText_160 : decode cX11_isText 160 = .ok (.iconst 1, 1) := by decide +kernel
theorem dX11_isText_161 : decode cX11_isText 161 = .ok (.iadd, 1) := by decide +kernel
theorem dX11_isText_162 : decode cX11_isText 162 = .ok (.putfield 202, 3) := by decide +kernel
theorem dX11_isText_165 : decode cX11_isText 165 = .ok (.iconst 1, 1) := by decide +kernel
theorem dX11_isText_166 : decode cX11_isText 166 = .ok (.ireturn, 1) := by decide +kernel
theorem dX11_figure_0 : decode cX11_figure 0 = .ok (.iload_n 0, 1) := by decide +kernel
theorem dX11_figure_1 : decode cX11_figure 1 = .ok (.invokestatic 193, 3) := by decide +kernel
theorem dX11_figure_4 : decode cX11_figure 4 = .ok (.istore_n 1, 1) := by decide +kernel
theorem dX11_figure_5 : decode cX11_figure 5 = .ok (.iload_n 0, 1) := by decide +kernel
theorem dX11_figure_6 : decode cX11_figure 6 = .ok (.invokestatic 199, 3) := by decide +kernel
theorem dX11_figure_9 : decode cX11_figure 9 = .ok (.ifCond .eq 10, 3) := by decide +kernel
theorem dX11_figure_12 : decode cX11_figure 12 = .ok (.iload_n 0, 1) := by decide +kernel
theorem dX11_figure_13 : decode cX11_figure 13 = .ok (.bipush 48, 2) := by decide +kernel
theorem dX11_figure_15 : decode cX11_figure 15 = .ok (.isub, 1) := by decide +kernel
theorem dX11_figure_16 : decode cX11_figure 16 = .ok (.goto 26, 3) := by decide +kernel
theorem dX11_figure_19 : decode cX11_figure 19 = .ok (.iload_n 1, 1) := by decide +kernel
theorem dX11_figure_20 : decode cX11_figure 20 = .ok (.bipush 65, 2) := by decide +kernel
theorem dX11_figure_22 : decode cX11_figure 22 = .ok (.if_icmp .lt 19, 3) := by decide +kernel
theorem dX11_figure_25 : decode cX11_figure 25 = .ok (.iload_n 1, 1) := by decide +kernel
theorem dX11_figure_26 : decode cX11_figure 26 = .ok (.bipush 70, 2) := by decide +kernel
theorem dX11_figure_28 : decode cX11_figure 28 = .ok (.if_icmp .gt 13, 3) := by decide +kernel
theorem dX11_figure_31 : decode cX11_figure 31 = .ok (.iload_n 1, 1) := by decide +kernel
theorem dX11_figure_32 : decode cX11_figure 32 = .ok (.bipush 65, 2) := by decide +kernel
theorem dX11_figure_34 : decode cX11_figure 34 = .ok (.isub, 1) := by decide +kernel
theorem dX11_figure_35 : decode cX11_figure 35 = .ok (.bipush 10, 2) := by decide +kernel
theorem dX11_figure_37 : decode cX11_figure 37 = .ok (.iadd, 1) := by decide +kernel
theorem dX11_figure_38 : decode cX11_figure 38 = .ok (.goto 4, 3) := by decide +kernel
theorem dX11_figure_41 : decode cX11_figure 41 = .ok (.iconst (-1), 1) := by decide +kernel
theorem dX11_figure_42 : decode cX11_figure 42 = .ok (.ireturn, 1) := by decide +kernel
theorem dX11_isNumber_0 : decode cX11_isNumber 0 = .ok (.aload_n 0, 1) := by decide +kernel
theorem dX11_isNumber_1 : decode cX11_isNumber 1 = .ok (.getfield 214, 3) := by decide +kernel
theorem dX11_isNumber_4 : decode cX11_isNumber 4 = .ok (.iconst 1, 1) := by decide +kernel
theorem dX11_isNumber_5 : decode cX11_isNumber 5 = .ok (.if_icmp .eq 5, 3) := by decide +kernel
theorem dX11_isNumber_8 : decode cX11_isNumber 8 = .ok (.iconst 0, 1) := by decide +kernel
theorem dX11_isNumber_9 : decode cX11_isNumber 9 = .ok (.ireturn, 1) := by decide +kernel
theorem dX11_isNumber_10 : decode cX11_isNumber 10 = .ok (.aload_n 0, 1) := by decide +kernel
theorem dX11_isNumber_11 : decode cX11_isNumber 11 = .ok (.getfield 211, 3) := by decide +kernel
theorem dX11_isNumber_14 : decode cX11_isNumber 14 = .ok (.istore_n 1, 1) := by decide +kernel
theorem dX11_isNumber_15 : decode cX11_isNumber 15 = .ok (.aload_n 0, 1) := by decide +kernel
theorem dX11_isNumber_16 : decode cX11_isNumber 16 = .ok (.iload_n 1, 1) := by decide +kernel
theorem dX11_isNumber_17 : decode cX11_isNumber 17 = .ok (.invokevirtual 205, 3) := by decide +kernel
theorem dX11_isNumber_20 : decode cX11_isNumber 20 = .ok (.invokestatic 193, 3) := by decide +kernel
theorem dX11_isNumber_23 : decode cX11_isNumber 23 = .ok (.bipush 88, 2) := by decide +kernel
theorem dX11_isNumber_25 : decode cX11_isNumber 25 = .ok (.if_icmp .ne 7, 3) := by decide +kernel
theorem dX11_isNumber_28 : decode cX11_isNumber 28 = .ok (.iconst 1, 1) := by decide +kernel
theorem dX11_isNumber_29 : decode cX11_isNumber 29 = .ok (.goto 4, 3) := by decide +kernel
theorem dX11_isNumber_32 : decode cX11_isNumber 32 = .ok (.iconst 0, 1) := by decide +kernel
theorem dX11_isNumber_33 : decode cX11_isNumber 33 = .ok (.istore_n 2, 1) := by decide +kernel
theorem dX11_isNumber_34 : decode cX11_isNumber 34 = .ok (.iload_n 2, 1) := by decide +kernel
theorem dX11_isNumber_35 : decode cX11_isNumber 35 = .ok (.ifCond .ne 13, 3) := by decide +kernel
theorem dX11_isNumber_38 : decode cX11_isNumber 38 = .ok (.aload_n 0, 1) := by decide +kernel
theorem dX11_isNumber_39 : decode cX11_isNumber 39 = .ok (.iload_n 1, 1) := by decide +kernel
theorem dX11_isNumber_40 : decode cX11_isNumber 40 = .ok (.invokevirtual 205, 3) := by decide +kernel
theorem dX11_isNumber_43 : decode cX11_isNumber 43 = .ok (.bipush 35, 2) := by decide +kernel
theorem dX11_isNumber_45 : decode cX11_isNumber 45 = .ok (.if_icmp .ne 6, 3) := by decide +kernel
theorem dX11_isNumber_48 : decode cX11_isNumber 48 = .ok (.iinc 1 1, 3) := by decide +kernel
theorem dX11_isNumber_51 : decode cX11_isNumber 51 = .ok (.aload_n 0, 1) := by decide +kernel
theorem dX11_isNumber_52 : decode cX11_isNumber 52 = .ok (.iload_n 1, 1) := by decide +kernel
theorem dX11_isNumber_53 : decode cX11_isNumber 53 = .ok (.invokevirtual 205, 3) := by decide +kernel
theorem dX11_isNumber_56 : decode cX11_isNumber 56 = .ok (.bipush 45, 2) := by decide +kernel
theorem dX11_isNumber_58 : decode cX11_isNumber 58 = .ok (.if_icmp .ne 15, 3) := by decide +kernel
theorem dX11_isNumber_61 : decode cX11_isNumber 61 = .ok (.iload_n 1, 1) := by decide +kernel
theorem dX11_isNumber_62 : decode cX11_isNumber 62 = .ok (.aload_n 0, 1) := by decide +kernel
theorem dX11_isNumber_63 : decode cX11_isNumber 63 = .ok (.getfield 223, 3) := by decide +kernel
theorem dX11_isNumber_66 : decode cX11_isNumber 66 = .ok (.if_icmp .ge 7, 3) := by decide +kernel
theorem dX11_isNumber_69 : decode cX11_isNumber 69 = .ok (.iconst 1, 1) := by decide +kernel
theorem dX11_isNumber_70 : decode cX11_isNumber 70 = .ok (.goto 4, 3) := by decide +kernel
theorem dX11_isNumber_73 : decode cX11_isNumber 73 = .ok (.iconst 0, 1) := by decide +kernel
theorem dX11_isNumber_74 : decode cX11_isNumber 74 = .ok (.istore_n 3, 1) := by decide +kernel
theorem dX11_isNumber_75 : decode cX11_isNumber 75 = .ok (.iload_n 3, 1) := by decide +kernel
theorem dX11_isNumber_76 : decode cX11_isNumber 76 = .ok (.ifCond .eq 6, 3) := by decide +kernel
theorem dX11_isNumber_79 : decode cX11_isNumber 79 = .ok (.iinc 1 1, 3) := by decide +kernel
theorem dX11_isNumber_82 : decode cX11_isNumber 82 = .ok (.aload_n 0, 1) := by decide +kernel
theorem dX11_isNumber_83 : decode cX11_isNumber 83 = .ok (.getfield 223, 3) := by decide +kernel
theorem dX11_isNumber_86 : decode cX11_isNumber 86 = .ok (.iload_n 1, 1) := by decide +kernel
theorem dX11_isNumber_87 : decode cX11_isNumber 87 = .ok (.isub, 1) := by decide +kernel
theorem dX11_isNumber_88 : decode cX11_isNumber 88 = .ok (.istore 4, 2) := by decide +kernel
theorem dX11_isNumber_90 : decode cX11_isNumber 90 = .ok (.iload 4, 2) := by decide +kernel
theorem dX11_isNumber_92 : decode cX11_isNumber 92 = .ok (.iconst 1, 1) := by decide +kernel
theorem dX11_isNumber_93 : decode cX11_isNumber 93 = .ok (.if_icmp .lt 18, 3) := by decide +kernel
theorem dX11_isNumber_96 : decode cX11_isNumber 96 = .ok (.iload 4, 2) := by decide +kernel
theorem dX11_isNumber_98 : decode cX11_isNumber 98 = .ok (.iload_n 2, 1) := by decide +kernel
theorem dX11_isNumber_99 : decode cX11_isNumber 99 = .ok (.ifCond .eq 7, 3) := by decide +kernel
theorem dX11_isNumber_102 : decode cX11_isNumber 102 = .ok (.iconst 5, 1) := by decide +kernel
theorem dX11_isNumber_103 : decode cX11_isNumber 103 = .ok (.goto 5, 3) := by decide +kernel
theorem dX11_isNumber_106 : decode cX11_isNumber 106 = .ok (.bipush 6, 2) := by decide +kernel
theorem dX11_isNumber_108 : decode cX11_isNumber 108 = .ok (.if_icmp .le 5, 3) := by decide +kernel
theorem dX11_isNumber_111 : decode cX11_isNumber 111 = .ok (.iconst 0, 1) := by decide +kernel
theorem dX11_isNumber_112 : decode cX11_isNumber 112 = .ok (.ireturn, 1) := by decide +kernel
theorem dX11_isNumber_113 : decode cX11_isNumber 113 = .ok (.iconst 0, 1) := by decide +kernel
theorem dX11_isNumber_114 : decode cX11_isNumber 114 = .ok (.istore 5, 2) := by decide +kernel
theorem dX11_isNumber_116 : decode cX11_isNumber 116 = .ok (.iload_n 1, 1) := by decide +kernel
theorem dX11_isNumber_117 : decode cX11_isNumber 117 = .ok (.istore 6, 2) := by decide +kernel
theorem dX11_isNumber_119 : decode cX11_isNumber 119 = .ok (.iload 6, 2) := by decide +kernel
theorem dX11_isNumber_121 : decode cX11_isNumber 121 = .ok (.aload_n 0, 1) := by decide +kernel
theorem dX11_isNumber_122 : decode cX11_isNumber 122 = .ok (.getfield 223, 3) := by decide +kernel
theorem dX11_isNumber_125 : decode cX11_isNumber 125 = .ok (.if_icmp .ge 57, 3) := by decide +kernel
theorem dX11_isNumber_128 : decode cX11_isNumber 128 = .ok (.aload_n 0, 1) := by decide +kernel
theorem dX11_isNumber_129 : decode cX11_isNumber 129 = .ok (.iload 6, 2) := by decide +kernel
theorem dX11_isNumber_131 : decode cX11_isNumber 131 = .ok (.invokevirtual 205, 3) := by decide +kernel
theorem dX11_isNumber_134 : decode cX11_isNumber 134 = .ok (.invokestatic 229, 3) := by decide +kernel
theorem dX11_isNumber_137 : decode cX11_isNumber 137 = .ok (.istore 7, 2) := by decide +kernel
theorem dX11_isNumber_139 : decode cX11_isNumber 139 = .ok (.iload 7, 2) := by decide +kernel
theorem dX11_isNumber_141 : decode cX11_isNumber 141 = .ok (.ifCond .lt 14, 3) := by decide +kernel
theorem dX11_isNumber_144 : decode cX11_isNumber 144 = .ok (.iload_n 2, 1) := by decide +kernel
theorem dX11_isNumber_145 : decode cX11_isNumber 145 = .ok (.ifCond .ne 12, 3) := by decide +kernel
theorem dX11_isNumber_148 : decode cX11_isNumber 148 = .ok (.iload 7, 2) := by decide +kernel
theorem dX11_isNumber_150 : decode cX11_isNumber 150 = .ok (.bipush 9, 2) := by decide +kernel
theorem dX11_isNumber_152 : decode cX11_isNumber 152 = .ok (.if_icmp .le 5, 3) := by decide +kernel
theorem dX11_isNumber_155 : decode cX11_isNumber 155 = .ok (.iconst 0, 1) := by decide +kernel
theorem dX11_isNumber_156 : decode cX11_isNumber 156 = .ok (.ireturn, 1) := by decide +kernel
theorem dX11_isNumber_157 : decode cX11_isNumber 157 = .ok (.iload 5, 2) := by decide +kernel
theorem dX11_isNumber_159 : decode cX11_isNumber 159 = .ok (.iload_n 2, 1) := by decide +kernel
theorem dX11_isNumber_160 : decode cX11_isNumber 160 = .ok (.ifCond .eq 8, 3) := by decide +kernel
theorem dX11_isNumber_163 : decode cX11_isNumber 163 = .ok (.bipush 16, 2) := by decide +kernel
theorem dX11_isNumber_165 : decode cX11_isNumber 165 = .ok (.goto 5, 3) := by decide +kernel
theorem dX11_isNumber_168 : decode cX11_isNumber 168 = .ok (.bipush 10, 2) := by decide +kernel
theorem dX11_isNumber_170 : decode cX11_isNumber 170 = .ok (.imul, 1) := by decide +kernel
theorem dX11_isNumber_171 : decode cX11_isNumber 171 = .ok (.iload 7, 2) := by decide +kernel
theorem dX11_isNumber_173 : decode cX11_isNumber 173 = .ok (.iadd, 1) := by decide +kernel
theorem dX11_isNumber_174 : decode cX11_isNumber 174 = .ok (.istore 5, 2) := by decide +kernel
theorem dX11_isNumber_176 : decode cX11_isNumber 176 = .ok (.iinc 6 1, 3) := by decide +kernel
theorem dX11_isNumber_179 : decode cX11_isNumber 179 = .ok (.goto (-60), 3) := by decide +kernel
theorem dX11_isNumber_182 : decode cX11_isNumber 182 = .ok (.aload_n 0, 1) := by decide +kernel
theorem dX11_isNumber_183 : decode cX11_isNumber 183 = .ok (.iload_n 3, 1) := by decide +kernel
theorem dX11_isNumber_184 : decode cX11_isNumber 184 = .ok (.ifCond .eq 9, 3) := by decide +kernel
theorem dX11_isNumber_187 : decode cX11_isNumber 187 = .ok (.iload 5, 2) := by decide +kernel
theorem dX11_isNumber_189 : decode cX11_isNumber 189 = .ok (.ineg, 1) := by decide +kernel
theorem dX11_isNumber_190 : decode cX11_isNumber 190 = .ok (.goto 5, 3) := by decide +kernel
theorem dX11_isNumber_193 : decode cX11_isNumber 193 = .ok (.iload 5, 2) := by decide +kernel
theorem dX11_isNumber_195 : decode cX11_isNumber 195 = .ok (.putfield 232, 3) := by decide +kernel
theorem dX11_isNumber_198 : decode cX11_isNumber 198 = .ok (.iconst 1, 1) := by decide +kernel
theorem dX11_isNumber_199 : decode cX11_isNumber 199 = .ok (.ireturn, 1) := by decide +kernel
theorem dX11_isRegister_0 : decode cX11_isRegister 0 = .ok (.aload_n 0, 1) := by decide +kernel
theorem dX11_isRegister_1 : decode cX11_isRegister 1 = .ok (.getfield 214, 3) := by decide +kernel
theorem dX11_isRegister_4 : decode cX11_isRegister 4 = .ok (.iconst 1, 1) := by decide +kernel
theorem dX11_isRegister_5 : decode cX11_isRegister 5 = .ok (.if_icmp .ne 66, 3) := by decide +kernel
theorem dX11_isRegister_8 : decode cX11_isRegister 8 = .ok (.aload_n 0, 1) := by decide +kernel
theorem dX11_isRegister_9 : decode cX11_isRegister 9 = .ok (.getfield 223, 3) := by decide +kernel
theorem dX11_isRegister_12 : decode cX11_isRegister 12 = .ok (.aload_n 0, 1) := by decide +kernel
theorem dX11_isRegister_13 : decode cX11_isRegister 13 = .ok (.getfield 211, 3) := by decide +kernel
theorem dX11_isRegister_16 : decode cX11_isRegister 16 = .ok (.isub, 1) := by decide +kernel
theorem dX11_isRegister_17 : decode cX11_isRegister 17 = .ok (.iconst 2, 1) := by decide +kernel
theorem dX11_isRegister_18 : decode cX11_isRegister 18 = .ok (.if_icmp .ne 53, 3) := by decide +kernel
theorem dX11_isRegister_21 : decode cX11_isRegister 21 = .ok (.aload_n 0, 1) := by decide +kernel
theorem dX11_isRegister_22 : decode cX11_isRegister 22 = .ok (.aload_n 0, 1) := by decide +kernel
theorem dX11_isRegister_23 : decode cX11_isRegister 23 = .ok (.getfield 211, 3) := by decide +kernel
theorem dX11_isRegister_26 : decode cX11_isRegister 26 = .ok (.invokevirtual 205, 3) := by decide +kernel
theorem dX11_isRegister_29 : decode cX11_isRegister 29 = .ok (.invokestatic 193, 3) := by decide +kernel
theorem dX11_isRegister_32 : decode cX11_isRegister 32 = .ok (.bipush 82, 2) := by decide +kernel
theorem dX11_isRegister_34 : decode cX11_isRegister 34 = .ok (.if_icmp .ne 37, 3) := by decide +kernel
theorem dX11_isRegister_37 : decode cX11_isRegister 37 = .ok (.aload_n 0, 1) := by decide +kernel
theorem dX11_isRegister_38 : decode cX11_isRegister 38 = .ok (.aload_n 0, 1) := by decide +kernel
theorem dX11_isRegister_39 : decode cX11_isRegister 39 = .ok (.getfield 211, 3) := by decide +kernel
theorem dX11_isRegister_42 : decode cX11_isRegister 42 = .ok (.iconst 1, 1) := by decide +kernel
theorem dX11_isRegister_43 : decode cX11_isRegister 43 = .ok (.iadd, 1) := by decide +kernel
theorem dX11_isRegister_44 : decode cX11_isRegister 44 = .ok (.invokevirtual 205, 3) := by decide +kernel
theorem dX11_isRegister_47 : decode cX11_isRegister 47 = .ok (.bipush 48, 2) := by decide +kernel
theorem dX11_isRegister_49 : decode cX11_isRegister 49 = .ok (.if_icmp .lt 22, 3) := by decide +kernel
theorem dX11_isRegister_52 : decode cX11_isRegister 52 = .ok (.aload_n 0, 1) := by decide +kernel
theorem dX11_isRegister_53 : decode cX11_isRegister 53 = .ok (.aload_n 0, 1) := by decide +kernel
theorem dX11_isRegister_54 : decode cX11_isRegister 54 = .ok (.getfield 211, 3) := by decide +kernel
theorem dX11_isRegister_57 : decode cX11_isRegister 57 = .ok (.iconst 1, 1) := by decide +kernel
theorem dX11_isRegister_58 : decode cX11_isRegister 58 = .ok (.iadd, 1) := by decide +kernel
theorem dX11_isRegister_59 : decode cX11_isRegister 59 = .ok (.invokevirtual 205, 3) := by decide +kernel
theorem dX11_isRegister_62 : decode cX11_isRegister 62 = .ok (.bipush 55, 2) := by decide +kernel
theorem dX11_isRegister_64 : decode cX11_isRegister 64 = .ok (.if_icmp .gt 7, 3) := by decide +kernel
theorem dX11_isRegister_67 : decode cX11_isRegister 67 = .ok (.iconst 1, 1) := by decide +kernel
theorem dX11_isRegister_68 : decode cX11_isRegister 68 = .ok (.goto 4, 3) := by decide +kernel
theorem dX11_isRegister_71 : decode cX11_isRegister 71 = .ok (.iconst 0, 1) := by decide +kernel
theorem dX11_isRegister_72 : decode cX11_isRegister 72 = .ok (.ireturn, 1) := by decide +kernel
theorem dX11_name_0 : decode cX11_name 0 = .ok (.iconst 0, 1) := by decide +kernel
theorem dX11_name_1 : decode cX11_name 1 = .ok (.istore_n 1, 1) := by decide +kernel
theorem dX11_name_2 : decode cX11_name 2 = .ok (.iconst 0, 1) := by decide +kernel
theorem dX11_name_3 : decode cX11_name 3 = .ok (.istore_n 2, 1) := by decide +kernel
theorem dX11_name_4 : decode cX11_name 4 = .ok (.aload_n 0, 1) := by decide +kernel
theorem dX11_name_5 : decode cX11_name 5 = .ok (.getfield 214, 3) := by decide +kernel
theorem dX11_name_8 : decode cX11_name 8 = .ok (.iconst 1, 1) := by decide +kernel
theorem dX11_name_9 : decode cX11_name 9 = .ok (.if_icmp .ne 125, 3) := by decide +kernel
theorem dX11_name_12 : decode cX11_name 12 = .ok (.iload_n 2, 1) := by decide +kernel
theorem dX11_name_13 : decode cX11_name 13 = .ok (.ldc 235, 2) := by decide +kernel
theorem dX11_name_15 : decode cX11_name 15 = .ok (.invokevirtual 237, 3) := by decide +kernel
theorem dX11_name_18 : decode cX11_name 18 = .ok (.if_icmp .ge 116, 3) := by decide +kernel
theorem dX11_name_21 : decode cX11_name 21 = .ok (.iconst 0, 1) := by decide +kernel
theorem dX11_name_22 : decode cX11_name 22 = .ok (.istore_n 3, 1) := by decide +kernel
theorem dX11_name_23 : decode cX11_name 23 = .ok (.ldc 235, 2) := by decide +kernel
theorem dX11_name_25 : decode cX11_name 25 = .ok (.iload_n 2, 1) := by decide +kernel
theorem dX11_name_26 : decode cX11_name 26 = .ok (.iload_n 3, 1) := by decide +kernel
theorem dX11_name_27 : decode cX11_name 27 = .ok (.iadd, 1) := by decide +kernel
theorem dX11_name_28 : decode cX11_name 28 = .ok (.invokevirtual 242, 3) := by decide +kernel
theorem dX11_name_31 : decode cX11_name 31 = .ok (.bipush 32, 2) := by decide +kernel
theorem dX11_name_33 : decode cX11_name 33 = .ok (.if_icmp .eq 9, 3) := by decide +kernel
theorem dX11_name_36 : decode cX11_name 36 = .ok (.iinc 3 1, 3) := by decide +kernel
theorem dX11_name_39 : decode cX11_name 39 = .ok (.goto (-16), 3) := by decide +kernel
theorem dX11_name_42 : decode cX11_name 42 = .ok (.iload_n 3, 1) := by decide +kernel
theorem dX11_name_43 : decode cX11_name 43 = .ok (.aload_n 0, 1) := by decide +kernel
theorem dX11_name_44 : decode cX11_name 44 = .ok (.getfield 223, 3) := by decide +kernel
theorem dX11_name_47 : decode cX11_name 47 = .ok (.aload_n 0, 1) := by decide +kernel
theorem dX11_name_48 : decode cX11_name 48 = .ok (.getfield 211, 3) := by decide +kernel
theorem dX11_name_51 : decode cX11_name 51 = .ok (.isub, 1) := by decide +kernel
theorem dX11_name_52 : decode cX11_name 52 = .ok (.if_icmp .ne 7, 3) := by decide +kernel
theorem dX11_name_55 : decode cX11_name 55 = .ok (.iconst 1, 1) := by decide +kernel
theorem dX11_name_56 : decode cX11_name 56 = .ok (.goto 4, 3) := by decide +kernel
theorem dX11_name_59 : decode cX11_name 59 = .ok (.iconst 0, 1) := by decide +kernel
theorem dX11_name_60 : decode cX11_name 60 = .ok (.istore 4, 2) := by decide +kernel
theorem dX11_name_62 : decode cX11_name 62 = .ok (.iconst 0, 1) := by decide +kernel
theorem dX11_name_63 : decode cX11_name 63 = .ok (.istore 5, 2) := by decide +kernel
theorem dX11_name_65 : decode cX11_name 65 = .ok (.iload 5, 2) := by decide +kernel
theorem dX11_name_67 : decode cX11_name 67 = .ok (.iload_n 3, 1) := by decide +kernel
theorem dX11_name_68 : decode cX11_name 68 = .ok (.if_icmp .ge 47, 3) := by decide +kernel
theorem dX11_name_71 : decode cX11_name 71 = .ok (.iload 4, 2) := by decide +kernel
theorem dX11_name_73 : decode cX11_name 73 = .ok (.ifCond .eq 42, 3) := by decide +kernel
theorem dX11_name_76 : decode cX11_name 76 = .ok (.ldc 235, 2) := by decide +kernel
theorem dX11_name_78 : decode cX11_name 78 = .ok (.iload_n 2, 1) := by decide +kernel
theorem dX11_name_79 : decode cX11_name 79 = .ok (.iload 5, 2) := by decide +kernel
theorem dX11_name_81 : decode cX11_name 81 = .ok (.iadd, 1) := by decide +kernel
theorem dX11_name_82 : decode cX11_name 82 = .ok (.invokevirtual 242, 3) := by decide +kernel
theorem dX11_name_85 : decode cX11_name 85 = .ok (.aload_n 0, 1) := by decide +kernel
theorem dX11_name_86 : decode cX11_name 86 = .ok (.aload_n 0, 1) := by decide +kernel
theorem dX11_name_87 : decode cX11_name 87 = .ok (.getfield 211, 3) := by decide +kernel
theorem dX11_name_90 : decode cX11_name 90 = .ok (.iload 5, 2) := by decide +kernel
theorem dX11_name_92 : decode cX11_name 92 = .ok (.iadd, 1) := by decide +kernel
theorem dX11_name_93 : decode cX11_name 93 = .ok (.invokevirtual 205, 3) := by decide +kernel
theorem dX11_name_96 : decode cX11_name 96 = .ok (.invokestatic 193, 3) := by decide +kernel
theorem dX11_name_99 : decode cX11_name 99 = .ok (.if_icmp .ne 7, 3) := by decide +kernel
theorem dX11_name_102 : decode cX11_name 102 = .ok (.iconst 1, 1) := by decide +kernel
theorem dX11_name_103 : decode cX11_name 103 = .ok (.goto 4, 3) := by decide +kernel
theorem dX11_name_106 : decode cX11_name 106 = .ok (.iconst 0, 1) := by decide +kernel
theorem dX11_name_107 : decode cX11_name 107 = .ok (.istore 4, 2) := by decide +kernel
theorem dX11_name_109 : decode cX11_name 109 = .ok (.iinc 5 1, 3) := by decide +kernel
theorem dX11_name_112 : decode cX11_name 112 = .ok (.goto (-47), 3) := by decide +kernel
theorem dX11_name_115 : decode cX11_name 115 = .ok (.iload 4, 2) := by decide +kernel
theorem dX11_name_117 : decode cX11_name 117 = .ok (.ifCond .eq 5, 3) := by decide +kernel
theorem dX11_name_120 : decode cX11_name 120 = .ok (.iload_n 1, 1) := by decide +kernel
theorem dX11_name_121 : decode cX11_name 121 = .ok (.ireturn, 1) := by decide +kernel
theorem dX11_name_122 : decode cX11_name 122 = .ok (.iload_n 2, 1) := by decide +kernel
theorem dX11_name_123 : decode cX11_name 123 = .ok (.iload_n 3, 1) := by decide +kernel
theorem dX11_name_124 : decode cX11_name 124 = .ok (.iconst 1, 1) := by decide +kernel
theorem dX11_name_125 : decode cX11_name 125 = .ok (.iadd, 1) := by decide +kernel
theorem dX11_name_126 : decode cX11_name 126 = .ok (.iadd, 1) := by decide +kernel
theorem dX11_name_127 : decode cX11_name 127 = .ok (.istore_n 2, 1) := by decide +kernel
theorem dX11_name_128 : decode cX11_name 128 = .ok (.iinc 1 1, 3) := by decide +kernel
theorem dX11_name_131 : decode cX11_name 131 = .ok (.goto (-127), 3) := by decide +kernel
theorem dX11_name_134 : decode cX11_name 134 = .ok (.iconst (-1), 1) := by decide +kernel
theorem dX11_name_135 : decode cX11_name 135 = .ok (.ireturn, 1) := by decide +kernel
theorem dX11_isLabel_0 : decode cX11_isLabel 0 = .ok (.aload_n 0, 1) := by decide +kernel
theorem dX11_isLabel_1 : decode cX11_isLabel 1 = .ok (.getfield 214, 3) := by decide +kernel
theorem dX11_isLabel_4 : decode cX11_isLabel 4 = .ok (.iconst 1, 1) := by decide +kernel
theorem dX11_isLabel_5 : decode cX11_isLabel 5 = .ok (.if_icmp .ne 31, 3) := by decide +kernel
theorem dX11_isLabel_8 : decode cX11_isLabel 8 = .ok (.aload_n 0, 1) := by decide +kernel
theorem dX11_isLabel_9 : decode cX11_isLabel 9 = .ok (.aload_n 0, 1) := by decide +kernel
theorem dX11_isLabel_10 : decode cX11_isLabel 10 = .ok (.getfield 211, 3) := by decide +kernel
theorem dX11_isLabel_13 : decode cX11_isLabel 13 = .ok (.invokevirtual 205, 3) := by decide +kernel
theorem dX11_isLabel_16 : decode cX11_isLabel 16 = .ok (.invokestatic 196, 3) := by decide +kernel
theorem dX11_isLabel_19 : decode cX11_isLabel 19 = .ok (.ifCond .eq 17, 3) := by decide +kernel
theorem dX11_isLabel_22 : decode cX11_isLabel 22 = .ok (.aload_n 0, 1) := by decide +kernel
theorem dX11_isLabel_23 : decode cX11_isLabel 23 = .ok (.getfield 223, 3) := by decide +kernel
theorem dX11_isLabel_26 : decode cX11_isLabel 26 = .ok (.aload_n 0, 1) := by decide +kernel
theorem dX11_isLabel_27 : decode cX11_isLabel 27 = .ok (.getfield 211, 3) := by decide +kernel
theorem dX11_isLabel_30 : decode cX11_isLabel 30 = .ok (.isub, 1) := by decide +kernel
theorem dX11_isLabel_31 : decode cX11_isLabel 31 = .ok (.bipush 20, 2) := by decide +kernel
theorem dX11_isLabel_33 : decode cX11_isLabel 33 = .ok (.if_icmp .le 5, 3) := by decide +kernel
theorem dX11_isLabel_36 : decode cX11_isLabel 36 = .ok (.iconst 0, 1) := by decide +kernel
theorem dX11_isLabel_37 : decode cX11_isLabel 37 = .ok (.ireturn, 1) := by decide +kernel
theorem dX11_isLabel_38 : decode cX11_isLabel 38 = .ok (.iconst 1, 1) := by decide +kernel
theorem dX11_isLabel_39 : decode cX11_isLabel 39 = .ok (.istore_n 1, 1) := by decide +kernel
theorem dX11_isLabel_40 : decode cX11_isLabel 40 = .ok (.aload_n 0, 1) := by decide +kernel
theorem dX11_isLabel_41 : decode cX11_isLabel 41 = .ok (.getfield 211, 3) := by decide +kernel
theorem dX11_isLabel_44 : decode cX11_isLabel 44 = .ok (.istore_n 2, 1) := by decide +kernel
theorem dX11_isLabel_45 : decode cX11_isLabel 45 = .ok (.iload_n 2, 1) := by decide +kernel
theorem dX11_isLabel_46 : decode cX11_isLabel 46 = .ok (.aload_n 0, 1) := by decide +kernel
theorem dX11_isLabel_47 : decode cX11_isLabel 47 = .ok (.getfield 223, 3) := by decide +kernel
theorem dX11_isLabel_50 : decode cX11_isLabel 50 = .ok (.if_icmp .ge 51, 3) := by decide +kernel
theorem dX11_isLabel_53 : decode cX11_isLabel 53 = .ok (.iload_n 1, 1) := by decide +kernel
theorem dX11_isLabel_54 : decode cX11_isLabel 54 = .ok (.ifCond .eq 39, 3) := by decide +kernel
theorem dX11_isLabel_57 : decode cX11_isLabel 57 = .ok (.aload_n 0, 1) := by decide +kernel
theorem dX11_isLabel_58 : decode cX11_isLabel 58 = .ok (.iload_n 2, 1) := by decide +kernel
theorem dX11_isLabel_59 : decode cX11_isLabel 59 = .ok (.invokevirtual 205, 3) := by decide +kernel
theorem dX11_isLabel_62 : decode cX11_isLabel 62 = .ok (.invokestatic 196, 3) := by decide +kernel
theorem dX11_isLabel_65 : decode cX11_isLabel 65 = .ok (.ifCond .ne 24, 3) := by decide +kernel
theorem dX11_isLabel_68 : decode cX11_isLabel 68 = .ok (.aload_n 0, 1) := by decide +kernel
theorem dX11_isLabel_69 : decode cX11_isLabel 69 = .ok (.iload_n 2, 1) := by decide +kernel
theorem dX11_isLabel_70 : decode cX11_isLabel 70 = .ok (.invokevirtual 205, 3) := by decide +kernel
theorem dX11_isLabel_73 : decode cX11_isLabel 73 = .ok (.invokestatic 199, 3) := by decide +kernel
theorem dX11_isLabel_76 : decode cX11_isLabel 76 = .ok (.ifCond .ne 13, 3) := by decide +kernel
theorem dX11_isLabel_79 : decode cX11_isLabel 79 = .ok (.aload_n 0, 1) := by decide +kernel
theorem dX11_isLabel_80 : decode cX11_isLabel 80 = .ok (.iload_n 2, 1) := by decide +kernel
theorem dX11_isLabel_81 : decode cX11_isLabel 81 = .ok (.invokevirtual 205, 3) := by decide +kernel
theorem dX11_isLabel_84 : decode cX11_isLabel 84 = .ok (.bipush 95, 2) := by decide +kernel
theorem dX11_isLabel_86 : decode cX11_isLabel 86 = .ok (.if_icmp .ne 7, 3) := by decide +kernel
theorem dX11_isLabel_89 : decode cX11_isLabel 89 = .ok (.iconst 1, 1) := by decide +kernel
theorem dX11_isLabel_90 : decode cX11_isLabel 90 = .ok (.goto 4, 3) := by decide +kernel
theorem dX11_isLabel_93 : decode cX11_isLabel 93 = .ok (.iconst 0, 1) := by decide +kernel
theorem dX11_isLabel_94 : decode cX11_isLabel 94 = .ok (.istore_n 1, 1) := by decide +kernel
theorem dX11_isLabel_95 : decode cX11_isLabel 95 = .ok (.iinc 2 1, 3) := by decide +kernel
theorem dX11_isLabel_98 : decode cX11_isLabel 98 = .ok (.goto (-53), 3) := by decide +kernel
theorem dX11_isLabel_101 : decode cX11_isLabel 101 = .ok (.iload_n 1, 1) := by decide +kernel
theorem dX11_isLabel_102 : decode cX11_isLabel 102 = .ok (.ifCond .eq 29, 3) := by decide +kernel
theorem dX11_isLabel_105 : decode cX11_isLabel 105 = .ok (.aload_n 0, 1) := by decide +kernel
theorem dX11_isLabel_106 : decode cX11_isLabel 106 = .ok (.invokevirtual 246, 3) := by decide +kernel
theorem dX11_isLabel_109 : decode cX11_isLabel 109 = .ok (.ifCond .ne 22, 3) := by decide +kernel
theorem dX11_isLabel_112 : decode cX11_isLabel 112 = .ok (.aload_n 0, 1) := by decide +kernel
theorem dX11_isLabel_113 : decode cX11_isLabel 113 = .ok (.invokevirtual 249, 3) := by decide +kernel
theorem dX11_isLabel_116 : decode cX11_isLabel 116 = .ok (.ifCond .ne 15, 3) := by decide +kernel
theorem dX11_isLabel_119 : decode cX11_isLabel 119 = .ok (.aload_n 0, 1) := by decide +kernel
theorem dX11_isLabel_120 : decode cX11_isLabel 120 = .ok (.invokevirtual 252, 3) := by decide +kernel
theorem dX11_isLabel_123 : decode cX11_isLabel 123 = .ok (.iconst (-1), 1) := by decide +kernel
theorem dX11_isLabel_124 : decode cX11_isLabel 124 = .ok (.if_icmp .ne 7, 3) := by decide +kernel
theorem dX11_isLabel_127 : decode cX11_isLabel 127 = .ok (.iconst 1, 1) := by decide +kernel
theorem dX11_isLabel_128 : decode cX11_isLabel 128 = .ok (.goto 4, 3) := by decide +kernel
theorem dX11_isLabel_131 : decode cX11_isLabel 131 = .ok (.iconst 0, 1) := by decide +kernel
theorem dX11_isLabel_132 : decode cX11_isLabel 132 = .ok (.ireturn, 1) := by decide +kernel
theorem dX11_wrong_0 : decode cX11_wrong 0 = .ok (.aload_n 0, 1) := by decide +kernel
theorem dX11_wrong_1 : decode cX11_wrong 1 = .ok (.iload_n 1, 1) := by decide +kernel
theorem dX11_wrong_2 : decode cX11_wrong 2 = .ok (.putfield 255, 3) := by decide +kernel
theorem dX11_wrong_5 : decode cX11_wrong 5 = .ok (.aload_n 0, 1) := by decide +kernel
theorem dX11_wrong_6 : decode cX11_wrong 6 = .ok (.iload_n 2, 1) := by decide +kernel
theorem dX11_wrong_7 : decode cX11_wrong 7 = .ok (.putfield 32, 3) := by decide +kernel
theorem dX11_wrong_10 : decode cX11_wrong 10 = .ok (.iconst 0, 1) := by decide +kernel
theorem dX11_wrong_11 : decode cX11_wrong 11 = .ok (.ireturn, 1) := by decide +kernel
theorem dX11_wrongToken_0 : decode cX11_wrongToken 0 = .ok (.aload_n 0, 1) := by decide +kernel
theorem dX11_wrongToken_1 : decode cX11_wrongToken 1 = .ok (.iconst 1, 1) := by decide +kernel
theorem dX11_wrongToken_2 : decode cX11_wrongToken 2 = .ok (.aload_n 0, 1) := by decide +kernel
theorem dX11_wrongToken_3 : decode cX11_wrongToken 3 = .ok (.getfield 211, 3) := by decide +kernel
theorem dX11_wrongToken_6 : decode cX11_wrongToken 6 = .ok (.invokevirtual 258, 3) := by decide +kernel
theorem dX11_wrongToken_9 : decode cX11_wrongToken 9 = .ok (.ireturn, 1) := by decide +kernel
theorem dX11_assemble_0 : decode cX11_assemble 0 = .ok (.aload_n 0, 1) := by decide +kernel
theorem dX11_assemble_1 : decode cX11_assemble 1 = .ok (.iconst 0, 1) := by decide +kernel
theorem dX11_assemble_2 : decode cX11_assemble 2 = .ok (.putfield 60, 3) := by decide +kernel
theorem dX11_assemble_5 : decode cX11_assemble 5 = .ok (.aload_n 0, 1) := by decide +kernel
theorem dX11_assemble_6 : decode cX11_assemble 6 = .ok (.aload_n 0, 1) := by decide +kernel
theorem dX11_assemble_7 : decode cX11_assemble 7 = .ok (.getfield 184, 3) := by decide +kernel
theorem dX11_assemble_10 : decode cX11_assemble 10 = .ok (.putfield 190, 3) := by decide +kernel
theorem dX11_assemble_13 : decode cX11_assemble 13 = .ok (.aload_n 0, 1) := by decide +kernel
theorem dX11_assemble_14 : decode cX11_assemble 14 = .ok (.iconst 0, 1) := by decide +kernel
theorem dX11_assemble_15 : decode cX11_assemble 15 = .ok (.putfield 184, 3) := by decide +kernel
theorem dX11_assemble_18 : decode cX11_assemble 18 = .ok (.aload_n 0, 1) := by decide +kernel
theorem dX11_assemble_19 : decode cX11_assemble 19 = .ok (.iconst 0, 1) := by decide +kernel
theorem dX11_assemble_20 : decode cX11_assemble 20 = .ok (.putfield 255, 3) := by decide +kernel
theorem dX11_assemble_23 : decode cX11_assemble 23 = .ok (.aload_n 0, 1) := by decide +kernel
theorem dX11_assemble_24 : decode cX11_assemble 24 = .ok (.iconst (-1), 1) := by decide +kernel
theorem dX11_assemble_25 : decode cX11_assemble 25 = .ok (.putfield 32, 3) := by decide +kernel
theorem dX11_assemble_28 : decode cX11_assemble 28 = .ok (.aload_n 0, 1) := by decide +kernel
theorem dX11_assemble_29 : decode cX11_assemble 29 = .ok (.iconst 0, 1) := by decide +kernel
theorem dX11_assemble_30 : decode cX11_assemble 30 = .ok (.putfield 262, 3) := by decide +kernel
theorem dX11_assemble_33 : decode cX11_assemble 33 = .ok (.aload_n 0, 1) := by decide +kernel
theorem dX11_assemble_34 : decode cX11_assemble 34 = .ok (.iconst 0, 1) := by decide +kernel
theorem dX11_assemble_35 : decode cX11_assemble 35 = .ok (.putfield 265, 3) := by decide +kernel
theorem dX11_assemble_38 : decode cX11_assemble 38 = .ok (.aload_n 0, 1) := by decide +kernel
theorem dX11_assemble_39 : decode cX11_assemble 39 = .ok (.invokevirtual 268, 3) := by decide +kernel
theorem dX11_assemble_42 : decode cX11_assemble 42 = .ok (.ifCond .ne 8, 3) := by decide +kernel
theorem dX11_assemble_45 : decode cX11_assemble 45 = .ok (.aload_n 0, 1) := by decide +kernel
theorem dX11_assemble_46 : decode cX11_assemble 46 = .ok (.getfield 255, 3) := by decide +kernel
theorem dX11_assemble_49 : decode cX11_assemble 49 = .ok (.ireturn, 1) := by decide +kernel
theorem dX11_assemble_50 : decode cX11_assemble 50 = .ok (.aload_n 0, 1) := by decide +kernel
theorem dX11_assemble_51 : decode cX11_assemble 51 = .ok (.iconst 1, 1) := by decide +kernel
theorem dX11_assemble_52 : decode cX11_assemble 52 = .ok (.putfield 265, 3) := by decide +kernel
theorem dX11_assemble_55 : decode cX11_assemble 55 = .ok (.aload_n 0, 1) := by decide +kernel
theorem dX11_assemble_56 : decode cX11_assemble 56 = .ok (.invokevirtual 268, 3) := by decide +kernel
theorem dX11_assemble_59 : decode cX11_assemble 59 = .ok (.ifCond .ne 8, 3) := by decide +kernel
theorem dX11_assemble_62 : decode cX11_assemble 62 = .ok (.aload_n 0, 1) := by decide +kernel
theorem dX11_assemble_63 : decode cX11_assemble 63 = .ok (.getfield 255, 3) := by decide +kernel
theorem dX11_assemble_66 : decode cX11_assemble 66 = .ok (.ireturn, 1) := by decide +kernel
theorem dX11_assemble_67 : decode cX11_assemble 67 = .ok (.aload_n 0, 1) := by decide +kernel
theorem dX11_assemble_68 : decode cX11_assemble 68 = .ok (.iconst 1, 1) := by decide +kernel
theorem dX11_assemble_69 : decode cX11_assemble 69 = .ok (.putfield 271, 3) := by decide +kernel
theorem dX11_assemble_72 : decode cX11_assemble 72 = .ok (.aload_n 0, 1) := by decide +kernel
theorem dX11_assemble_73 : decode cX11_assemble 73 = .ok (.aload_n 0, 1) := by decide +kernel
theorem dX11_assemble_74 : decode cX11_assemble 74 = .ok (.getfield 274, 3) := by decide +kernel
theorem dX11_assemble_77 : decode cX11_assemble 77 = .ok (.putfield 277, 3) := by decide +kernel
theorem dX11_assemble_80 : decode cX11_assemble 80 = .ok (.aload_n 0, 1) := by decide +kernel
theorem dX11_assemble_81 : decode cX11_assemble 81 = .ok (.aload_n 0, 1) := by decide +kernel
theorem dX11_assemble_82 : decode cX11_assemble 82 = .ok (.getfield 280, 3) := by decide +kernel
theorem dX11_assemble_85 : decode cX11_assemble 85 = .ok (.putfield 283, 3) := by decide +kernel
theorem dX11_assemble_88 : decode cX11_assemble 88 = .ok (.iconst 0, 1) := by decide +kernel
theorem dX11_assemble_89 : decode cX11_assemble 89 = .ok (.istore_n 1, 1) := by decide +kernel
theorem dX11_assemble_90 : decode cX11_assemble 90 = .ok (.iload_n 1, 1) := by decide +kernel
theorem dX11_assemble_91 : decode cX11_assemble 91 = .ok (.aload_n 0, 1) := by decide +kernel
theorem dX11_assemble_92 : decode cX11_assemble 92 = .ok (.getfield 280, 3) := by decide +kernel
theorem dX11_assemble_95 : decode cX11_assemble 95 = .ok (.if_icmp .ge 21, 3) := by decide +kernel
theorem dX11_assemble_98 : decode cX11_assemble 98 = .ok (.aload_n 0, 1) := by decide +kernel
theorem dX11_assemble_99 : decode cX11_assemble 99 = .ok (.getfield 26, 3) := by decide +kernel
theorem dX11_assemble_102 : decode cX11_assemble 102 = .ok (.iload_n 1, 1) := by decide +kernel
theorem dX11_assemble_103 : decode cX11_assemble 103 = .ok (.aload_n 0, 1) := by decide +kernel
theorem dX11_assemble_104 : decode cX11_assemble 104 = .ok (.getfield 36, 3) := by decide +kernel
theorem dX11_assemble_107 : decode cX11_assemble 107 = .ok (.iload_n 1, 1) := by decide +kernel
theorem dX11_assemble_108 : decode cX11_assemble 108 = .ok (.iaload, 1) := by decide +kernel
theorem dX11_assemble_109 : decode cX11_assemble 109 = .ok (.iastore, 1) := by decide +kernel
theorem dX11_assemble_110 : decode cX11_assemble 110 = .ok (.iinc 1 1, 3) := by decide +kernel
theorem dX11_assemble_113 : decode cX11_assemble 113 = .ok (.goto (-23), 3) := by decide +kernel
theorem dX11_assemble_116 : decode cX11_assemble 116 = .ok (.aload_n 0, 1) := by decide +kernel
theorem dX11_assemble_117 : decode cX11_assemble 117 = .ok (.aload_n 0, 1) := by decide +kernel
theorem dX11_assemble_118 : decode cX11_assemble 118 = .ok (.getfield 262, 3) := by decide +kernel
theorem dX11_assemble_121 : decode cX11_assemble 121 = .ok (.putfield 286, 3) := by decide +kernel
theorem dX11_assemble_124 : decode cX11_assemble 124 = .ok (.iconst 0, 1) := by decide +kernel
theorem dX11_assemble_125 : decode cX11_assemble 125 = .ok (.istore_n 1, 1) := by decide +kernel
theorem dX11_assemble_126 : decode cX11_assemble 126 = .ok (.iload_n 1, 1) := by decide +kernel
theorem dX11_assemble_127 : decode cX11_assemble 127 = .ok (.aload_n 0, 1) := by decide +kernel
theorem dX11_assemble_128 : decode cX11_assemble 128 = .ok (.getfield 262, 3) := by decide +kernel
theorem dX11_assemble_131 : decode cX11_assemble 131 = .ok (.if_icmp .ge 21, 3) := by decide +kernel
theorem dX11_assemble_134 : decode cX11_assemble 134 = .ok (.aload_n 0, 1) := by decide +kernel
theorem dX11_assemble_135 : decode cX11_assemble 135 = .ok (.getfield 29, 3) := by decide +kernel
theorem dX11_assemble_138 : decode cX11_assemble 138 = .ok (.iload_n 1, 1) := by decide +kernel
theorem dX11_assemble_139 : decode cX11_assemble 139 = .ok (.aload_n 0, 1) := by decide +kernel
theorem dX11_assemble_140 : decode cX11_assemble 140 = .ok (.getfield 45, 3) := by decide +kernel
theorem dX11_assemble_143 : decode cX11_assemble 143 = .ok (.iload_n 1, 1) := by decide +kernel
theorem dX11_assemble_144 : decode cX11_assemble 144 = .ok (.iaload, 1) := by decide +kernel
theorem dX11_assemble_145 : decode cX11_assemble 145 = .ok (.iastore, 1) := by decide +kernel
theorem dX11_assemble_146 : decode cX11_assemble 146 = .ok (.iinc 1 1, 3) := by decide +kernel
theorem dX11_assemble_149 : decode cX11_assemble 149 = .ok (.goto (-23), 3) := by decide +kernel
theorem dX11_assemble_152 : decode cX11_assemble 152 = .ok (.iconst 0, 1) := by decide +kernel
theorem dX11_assemble_153 : decode cX11_assemble 153 = .ok (.ireturn, 1) := by decide +kernel
theorem dX11_pass_0 : decode cX11_pass 0 = .ok (.aload_n 0, 1) := by decide +kernel
theorem dX11_pass_1 : decode cX11_pass 1 = .ok (.iconst 0, 1) := by decide +kernel
theorem dX11_pass_2 : decode cX11_pass 2 = .ok (.putfield 202, 3) := by decide +kernel
theorem dX11_pass_5 : decode cX11_pass 5 = .ok (.aload_n 0, 1) := by decide +kernel
theorem dX11_pass_6 : decode cX11_pass 6 = .ok (.iconst 0, 1) := by decide +kernel
theorem dX11_pass_7 : decode cX11_pass 7 = .ok (.putfield 280, 3) := by decide +kernel
theorem dX11_pass_10 : decode cX11_pass 10 = .ok (.aload_n 0, 1) := by decide +kernel
theorem dX11_pass_11 : decode cX11_pass 11 = .ok (.iconst 0, 1) := by decide +kernel
theorem dX11_pass_12 : decode cX11_pass 12 = .ok (.putfield 289, 3) := by decide +kernel
theorem dX11_pass_15 : decode cX11_pass 15 = .ok (.aload_n 0, 1) := by decide +kernel
theorem dX11_pass_16 : decode cX11_pass 16 = .ok (.iconst 0, 1) := by decide +kernel
theorem dX11_pass_17 : decode cX11_pass 17 = .ok (.putfield 292, 3) := by decide +kernel
theorem dX11_pass_20 : decode cX11_pass 20 = .ok (.iconst 1, 1) := by decide +kernel
theorem dX11_pass_21 : decode cX11_pass 21 = .ok (.istore_n 1, 1) := by decide +kernel
theorem dX11_pass_22 : decode cX11_pass 22 = .ok (.iload_n 1, 1) := by decide +kernel
theorem dX11_pass_23 : decode cX11_pass 23 = .ok (.ifCond .eq 39, 3) := by decide +kernel
theorem dX11_pass_26 : decode cX11_pass 26 = .ok (.aload_n 0, 1) := by decide +kernel
theorem dX11_pass_27 : decode cX11_pass 27 = .ok (.getfield 292, 3) := by decide +kernel
theorem dX11_pass_30 : decode cX11_pass 30 = .ok (.ifCond .ne 32, 3) := by decide +kernel
theorem dX11_pass_33 : decode cX11_pass 33 = .ok (.aload_n 0, 1) := by decide +kernel
theorem dX11_pass_34 : decode cX11_pass 34 = .ok (.getfield 202, 3) := by decide +kernel
theorem dX11_pass_37 : decode cX11_pass 37 = .ok (.aload_n 0, 1) := by decide +kernel
theorem dX11_pass_38 : decode cX11_pass 38 = .ok (.getfield 190, 3) := by decide +kernel
theorem dX11_pass_41 : decode cX11_pass 41 = .ok (.if_icmp .ge 21, 3) := by decide +kernel
theorem dX11_pass_44 : decode cX11_pass 44 = .ok (.aload_n 0, 1) := by decide +kernel
theorem dX11_pass_45 : decode cX11_pass 45 = .ok (.invokevirtual 295, 3) := by decide +kernel
theorem dX11_pass_48 : decode cX11_pass 48 = .ok (.istore_n 1, 1) := by decide +kernel
theorem dX11_pass_49 : decode cX11_pass 49 = .ok (.aload_n 0, 1) := by decide +kernel
theorem dX11_pass_50 : decode cX11_pass 50 = .ok (.dup, 1) := by decide +kernel
theorem dX11_pass_51 : decode cX11_pass 51 = .ok (.getfield 202, 3) := by decide +kernel
theorem dX11_pass_54 : decode cX11_pass 54 = .ok (.iconst 1, 1) := by decide +kernel
theorem dX11_pass_55 : decode cX11_pass 55 = .ok (.iadd, 1) := by decide +kernel
theorem dX11_pass_56 : decode cX11_pass 56 = .ok (.putfield 202, 3) := by decide +kernel
theorem dX11_pass_59 : decode cX11_pass 59 = .ok (.goto (-37), 3) := by decide +kernel
theorem dX11_pass_62 : decode cX11_pass 62 = .ok (.iload_n 1, 1) := by decide +kernel
theorem dX11_pass_63 : decode cX11_pass 63 = .ok (.ifCond .eq 20, 3) := by decide +kernel
theorem dX11_pass_66 : decode cX11_pass 66 = .ok (.aload_n 0, 1) := by decide +kernel
theorem dX11_pass_67 : decode cX11_pass 67 = .ok (.getfield 289, 3) := by decide +kernel
theorem dX11_pass_70 : decode cX11_pass 70 = .ok (.ifCond .ne 13, 3) := by decide +kernel
theorem dX11_pass_73 : decode cX11_pass 73 = .ok (.aload_n 0, 1) := by decide +kernel
theorem dX11_pass_74 : decode cX11_pass 74 = .ok (.iconst 1, 1) := by decide +kernel
theorem dX11_pass_75 : decode cX11_pass 75 = .ok (.aload_n 0, 1) := by decide +kernel
theorem dX11_pass_76 : decode cX11_pass 76 = .ok (.getfield 190, 3) := by decide +kernel
theorem dX11_pass_79 : decode cX11_pass 79 = .ok (.invokevirtual 258, 3) := by decide +kernel
theorem dX11_pass_82 : decode cX11_pass 82 = .ok (.ireturn, 1) := by decide +kernel
theorem dX11_pass_83 : decode cX11_pass 83 = .ok (.iload_n 1, 1) := by decide +kernel
theorem dX11_pass_84 : decode cX11_pass 84 = .ok (.ireturn, 1) := by decide +kernel
theorem dX11_line_0 : decode cX11_line 0 = .ok (.aload_n 0, 1) := by decide +kernel
theorem dX11_line_1 : decode cX11_line 1 = .ok (.invokevirtual 297, 3) := by decide +kernel
theorem dX11_line_4 : decode cX11_line 4 = .ok (.aload_n 0, 1) := by decide +kernel
theorem dX11_line_5 : decode cX11_line 5 = .ok (.getfield 214, 3) := by decide +kernel
theorem dX11_line_8 : decode cX11_line 8 = .ok (.ifCond .ne 5, 3) := by decide +kernel
theorem dX11_line_11 : decode cX11_line 11 = .ok (.iconst 1, 1) := by decide +kernel
theorem dX11_line_12 : decode cX11_line 12 = .ok (.ireturn, 1) := by decide +kernel
theorem dX11_line_13 : decode cX11_line 13 = .ok (.aload_n 0, 1) := by decide +kernel
theorem dX11_line_14 : decode cX11_line 14 = .ok (.getfield 289, 3) := by decide +kernel
theorem dX11_line_17 : decode cX11_line 17 = .ok (.ifCond .ne 8, 3) := by decide +kernel
theorem dX11_line_20 : decode cX11_line 20 = .ok (.aload_n 0, 1) := by decide +kernel
theorem dX11_line_21 : decode cX11_line 21 = .ok (.invokevirtual 300, 3) := by decide +kernel
theorem dX11_line_24 : decode cX11_line 24 = .ok (.ireturn, 1) := by decide +kernel
