theorem dX11_init_0 : decode cX11_init 0 = .ok (.aload_n 0, 1) := by decide +kernel
theorem dX11_init_1 : decode cX11_init 1 = .ok (.invokespecial 1, 3) := by decide +kernel
theorem dX11_init_4 : decode cX11_init 4 = .ok (.aload_n 0, 1) := by decide +kernel
theorem dX11_init_5 : decode cX11_init 5 = .ok (.bipush 20, 2) := by decide +kernel
theorem dX11_init_7 : decode cX11_init 7 = .ok (.newarray .int, 2) := by decide +kernel
theorem dX11_init_9 : decode cX11_init 9 = .ok (.putfield 7, 3) := by decide +kernel
theorem dX11_init_12 : decode cX11_init 12 = .ok (.aload_n 0, 1) := by decide +kernel
theorem dX11_init_13 : decode cX11_init 13 = .ok (.bipush 20, 2) := by decide +kernel
theorem dX11_init_15 : decode cX11_init 15 = .ok (.newarray .int, 2) := by decide +kernel
theorem dX11_init_17 : decode cX11_init 17 = .ok (.putfield 13, 3) := by decide +kernel
theorem dX11_init_20 : decode cX11_init 20 = .ok (.aload_n 0, 1) := by decide +kernel
theorem dX11_init_21 : decode cX11_init 21 = .ok (.bipush 20, 2) := by decide +kernel
theorem dX11_init_23 : decode cX11_init 23 = .ok (.newarray .int, 2) := by decide +kernel
theorem dX11_init_25 : decode cX11_init 25 = .ok (.putfield 16, 3) := by decide +kernel
theorem dX11_init_28 : decode cX11_init 28 = .ok (.aload_n 0, 1) := by decide +kernel
theorem dX11_init_29 : decode cX11_init 29 = .ok (.bipush 20, 2) := by decide +kernel
theorem dX11_init_31 : decode cX11_init 31 = .ok (.newarray .int, 2) := by decide +kernel
theorem dX11_init_33 : decode cX11_init 33 = .ok (.putfield 19, 3) := by decide +kernel
theorem dX11_init_36 : decode cX11_init 36 = .ok (.aload_n 0, 1) := by decide +kernel
theorem dX11_init_37 : decode cX11_init 37 = .ok (.bipush 20, 2) := by decide +kernel
theorem dX11_init_39 : decode cX11_init 39 = .ok (.newarray .int, 2) := by decide +kernel
theorem dX11_init_41 : decode cX11_init 41 = .ok (.putfield 22, 3) := by decide +kernel
theorem dX11_init_44 : decode cX11_init 44 = .ok (.aload_n 0, 1) := by decide +kernel
theorem dX11_init_45 : decode cX11_init 45 = .ok (.bipush 20, 2) := by decide +kernel
theorem dX11_init_47 : decode cX11_init 47 = .ok (.newarray .int, 2) := by decide +kernel
theorem dX11_init_49 : decode cX11_init 49 = .ok (.putfield 25, 3) := by decide +kernel
theorem dX11_init_52 : decode cX11_init 52 = .ok (.aload_n 0, 1) := by decide +kernel
theorem dX11_init_53 : decode cX11_init 53 = .ok (.iconst 4, 1) := by decide +kernel
theorem dX11_init_54 : decode cX11_init 54 = .ok (.newarray .int, 2) := by decide +kernel
theorem dX11_init_56 : decode cX11_init 56 = .ok (.putfield 28, 3) := by decide +kernel
theorem dX11_init_59 : decode cX11_init 59 = .ok (.aload_n 0, 1) := by decide +kernel
theorem dX11_init_60 : decode cX11_init 60 = .ok (.bipush 32, 2) := by decide +kernel
theorem dX11_init_62 : decode cX11_init 62 = .ok (.newarray .int, 2) := by decide +kernel
theorem dX11_init_64 : decode cX11_init 64 = .ok (.putfield 31, 3) := by decide +kernel
theorem dX11_init_67 : decode cX11_init 67 = .ok (.aload_n 0, 1) := by decide +kernel
theorem dX11_init_68 : decode cX11_init 68 = .ok (.bipush 100, 2) := by decide +kernel
theorem dX11_init_70 : decode cX11_init 70 = .ok (.newarray .int, 2) := by decide +kernel
theorem dX11_init_72 : decode cX11_init 72 = .ok (.putfield 34, 3) := by decide +kernel
theorem dX11_init_75 : decode cX11_init 75 = .ok (.iconst 0, 1) := by decide +kernel
theorem dX11_init_76 : decode cX11_init 76 = .ok (.istore_n 1, 1) := by decide +kernel
theorem dX11_init_77 : decode cX11_init 77 = .ok (.iload_n 1, 1) := by decide +kernel
theorem dX11_init_78 : decode cX11_init 78 = .ok (.iconst 4, 1) := by decide +kernel
theorem dX11_init_79 : decode cX11_init 79 = .ok (.if_icmp .ge 16, 3) := by decide +kernel
theorem dX11_init_82 : decode cX11_init 82 = .ok (.aload_n 0, 1) := by decide +kernel
theorem dX11_init_83 : decode cX11_init 83 = .ok (.getfield 28, 3) := by decide +kernel
theorem dX11_init_86 : decode cX11_init 86 = .ok (.iload_n 1, 1) := by decide +kernel
theorem dX11_init_87 : decode cX11_init 87 = .ok (.iconst (-1), 1) := by decide +kernel
theorem dX11_init_88 : decode cX11_init 88 = .ok (.iastore, 1) := by decide +kernel
theorem dX11_init_89 : decode cX11_init 89 = .ok (.iinc 1 1, 3) := by decide +kernel
theorem dX11_init_92 : decode cX11_init 92 = .ok (.goto (-15), 3) := by decide +kernel
theorem dX11_init_95 : decode cX11_init 95 = .ok (.return_, 1) := by decide +kernel
theorem dX11_thrown_0 : decode cX11_thrown 0 = .ok (.aload_n 0, 1) := by decide +kernel
theorem dX11_thrown_1 : decode cX11_thrown 1 = .ok (.getfield 37, 3) := by decide +kernel
theorem dX11_thrown_4 : decode cX11_thrown 4 = .ok (.ireturn, 1) := by decide +kernel
theorem dX11_within_0 : decode cX11_within 0 = .ok (.iload_n 0, 1) := by decide +kernel
theorem dX11_within_1 : decode cX11_within 1 = .ok (.iload_n 1, 1) := by decide +kernel
theorem dX11_within_2 : decode cX11_within 2 = .ok (.if_icmp .lt 12, 3) := by decide +kernel
theorem dX11_within_5 : decode cX11_within 5 = .ok (.iload_n 0, 1) := by decide +kernel
theorem dX11_within_6 : decode cX11_within 6 = .ok (.iload_n 2, 1) := by decide +kernel
theorem dX11_within_7 : decode cX11_within 7 = .ok (.if_icmp .gt 7, 3) := by decide +kernel
theorem dX11_within_10 : decode cX11_within 10 = .ok (.iconst 1, 1) := by decide +kernel
theorem dX11_within_11 : decode cX11_within 11 = .ok (.goto 4, 3) := by decide +kernel
theorem dX11_within_14 : decode cX11_within 14 = .ok (.iconst 0, 1) := by decide +kernel
theorem dX11_within_15 : decode cX11_within 15 = .ok (.ireturn, 1) := by decide +kernel
theorem dX11_isLoaf_0 : decode cX11_isLoaf 0 = .ok (.iload_n 1, 1) := by decide +kernel
theorem dX11_isLoaf_1 : decode cX11_isLoaf 1 = .ok (.iconst 0, 1) := by decide +kernel
theorem dX11_isLoaf_2 : decode cX11_isLoaf 2 = .ok (.aload_n 0, 1) := by decide +kernel
theorem dX11_isLoaf_3 : decode cX11_isLoaf 3 = .ok (.getfield 41, 3) := by decide +kernel
theorem dX11_isLoaf_6 : decode cX11_isLoaf 6 = .ok (.iconst 1, 1) := by decide +kernel
theorem dX11_isLoaf_7 : decode cX11_isLoaf 7 = .ok (.isub, 1) := by decide +kernel
theorem dX11_isLoaf_8 : decode cX11_isLoaf 8 = .ok (.invokestatic 44, 3) := by decide +kernel
theorem dX11_isLoaf_11 : decode cX11_isLoaf 11 = .ok (.ireturn, 1) := by decide +kernel
theorem dX11_isShelf_0 : decode cX11_isShelf 0 = .ok (.iload_n 0, 1) := by decide +kernel
theorem dX11_isShelf_1 : decode cX11_isShelf 1 = .ok (.iconst 0, 1) := by decide +kernel
theorem dX11_isShelf_2 : decode cX11_isShelf 2 = .ok (.iconst 3, 1) := by decide +kernel
theorem dX11_isShelf_3 : decode cX11_isShelf 3 = .ok (.invokestatic 44, 3) := by decide +kernel
theorem dX11_isShelf_6 : decode cX11_isShelf 6 = .ok (.ireturn, 1) := by decide +kernel
theorem dX11_begin_0 : decode cX11_begin 0 = .ok (.aload_n 0, 1) := by decide +kernel
theorem dX11_begin_1 : decode cX11_begin 1 = .ok (.getfield 34, 3) := by decide +kernel
theorem dX11_begin_4 : decode cX11_begin 4 = .ok (.aload_n 0, 1) := by decide +kernel
theorem dX11_begin_5 : decode cX11_begin 5 = .ok (.getfield 48, 3) := by decide +kernel
theorem dX11_begin_8 : decode cX11_begin 8 = .ok (.bipush 100, 2) := by decide +kernel
theorem dX11_begin_10 : decode cX11_begin 10 = .ok (.irem, 1) := by decide +kernel
theorem dX11_begin_11 : decode cX11_begin 11 = .ok (.bipush 10, 2) := by decide +kernel
theorem dX11_begin_13 : decode cX11_begin 13 = .ok (.iload_n 1, 1) := by decide +kernel
theorem dX11_begin_14 : decode cX11_begin 14 = .ok (.imul, 1) := by decide +kernel
theorem dX11_begin_15 : decode cX11_begin 15 = .ok (.iload_n 2, 1) := by decide +kernel
theorem dX11_begin_16 : decode cX11_begin 16 = .ok (.iadd, 1) := by decide +kernel
theorem dX11_begin_17 : decode cX11_begin 17 = .ok (.iastore, 1) := by decide +kernel
theorem dX11_begin_18 : decode cX11_begin 18 = .ok (.aload_n 0, 1) := by decide +kernel
theorem dX11_begin_19 : decode cX11_begin 19 = .ok (.dup, 1) := by decide +kernel
theorem dX11_begin_20 : decode cX11_begin 20 = .ok (.getfield 48, 3) := by decide +kernel
theorem dX11_begin_23 : decode cX11_begin 23 = .ok (.iconst 1, 1) := by decide +kernel
theorem dX11_begin_24 : decode cX11_begin 24 = .ok (.iadd, 1) := by decide +kernel
theorem dX11_begin_25 : decode cX11_begin 25 = .ok (.putfield 48, 3) := by decide +kernel
theorem dX11_begin_28 : decode cX11_begin 28 = .ok (.return_, 1) := by decide +kernel
theorem dX11_plainRest_0 : decode cX11_plainRest 0 = .ok (.aload_n 0, 1) := by decide +kernel
theorem dX11_plainRest_1 : decode cX11_plainRest 1 = .ok (.iconst 0, 1) := by decide +kernel
theorem dX11_plainRest_2 : decode cX11_plainRest 2 = .ok (.iconst 0, 1) := by decide +kernel
theorem dX11_plainRest_3 : decode cX11_plainRest 3 = .ok (.invokevirtual 51, 3) := by decide +kernel
theorem dX11_plainRest_6 : decode cX11_plainRest 6 = .ok (.aload_n 0, 1) := by decide +kernel
theorem dX11_plainRest_7 : decode cX11_plainRest 7 = .ok (.getfield 16, 3) := by decide +kernel
theorem dX11_plainRest_10 : decode cX11_plainRest 10 = .ok (.iload_n 1, 1) := by decide +kernel
theorem dX11_plainRest_11 : decode cX11_plainRest 11 = .ok (.aload_n 0, 1) := by decide +kernel
theorem dX11_plainRest_12 : decode cX11_plainRest 12 = .ok (.getfield 16, 3) := by decide +kernel
theorem dX11_plainRest_15 : decode cX11_plainRest 15 = .ok (.iload_n 1, 1) := by decide +kernel
theorem dX11_plainRest_16 : decode cX11_plainRest 16 = .ok (.iaload, 1) := by decide +kernel
theorem dX11_plainRest_17 : decode cX11_plainRest 17 = .ok (.iload_n 2, 1) := by decide +kernel
theorem dX11_plainRest_18 : decode cX11_plainRest 18 = .ok (.bipush 6, 2) := by decide +kernel
theorem dX11_plainRest_20 : decode cX11_plainRest 20 = .ok (.idiv, 1) := by decide +kernel
theorem dX11_plainRest_21 : decode cX11_plainRest 21 = .ok (.iadd, 1) := by decide +kernel
theorem dX11_plainRest_22 : decode cX11_plainRest 22 = .ok (.bipush 100, 2) := by decide +kernel
theorem dX11_plainRest_24 : decode cX11_plainRest 24 = .ok (.if_icmp .le 8, 3) := by decide +kernel
theorem dX11_plainRest_27 : decode cX11_plainRest 27 = .ok (.bipush 100, 2) := by decide +kernel
theorem dX11_plainRest_29 : decode cX11_plainRest 29 = .ok (.goto 14, 3) := by decide +kernel
theorem dX11_plainRest_32 : decode cX11_plainRest 32 = .ok (.aload_n 0, 1) := by decide +kernel
theorem dX11_plainRest_33 : decode cX11_plainRest 33 = .ok (.getfield 16, 3) := by decide +kernel
theorem dX11_plainRest_36 : decode cX11_plainRest 36 = .ok (.iload_n 1, 1) := by decide +kernel
theorem dX11_plainRest_37 : decode cX11_plainRest 37 = .ok (.iaload, 1) := by decide +kernel
theorem dX11_plainRest_38 : decode cX11_plainRest 38 = .ok (.iload_n 2, 1) := by decide +kernel
theorem dX11_plainRest_39 : decode cX11_plainRest 39 = .ok (.bipush 6, 2) := by decide +kernel
theorem dX11_plainRest_41 : decode cX11_plainRest 41 = .ok (.idiv, 1) := by decide +kernel
theorem dX11_plainRest_42 : decode cX11_plainRest 42 = .ok (.iadd, 1) := by decide +kernel
theorem dX11_plainRest_43 : decode cX11_plainRest 43 = .ok (.iastore, 1) := by decide +kernel
theorem dX11_plainRest_44 : decode cX11_plainRest 44 = .ok (.return_, 1) := by decide +kernel
theorem dX11_ryeRest_0 : decode cX11_ryeRest 0 = .ok (.aload_n 0, 1) := by decide +kernel
theorem dX11_ryeRest_1 : decode cX11_ryeRest 1 = .ok (.iconst 0, 1) := by decide +kernel
theorem dX11_ryeRest_2 : decode cX11_ryeRest 2 = .ok (.iconst 2, 1) := by decide +kernel
theorem dX11_ryeRest_3 : decode cX11_ryeRest 3 = .ok (.invokevirtual 51, 3) := by decide +kernel
theorem dX11_ryeRest_6 : decode cX11_ryeRest 6 = .ok (.aload_n 0, 1) := by decide +kernel
theorem dX11_ryeRest_7 : decode cX11_ryeRest 7 = .ok (.iload_n 1, 1) := by decide +kernel
theorem dX11_ryeRest_8 : decode cX11_ryeRest 8 = .ok (.iload_n 2, 1) := by decide +kernel
theorem dX11_ryeRest_9 : decode cX11_ryeRest 9 = .ok (.iconst 2, 1) := by decide +kernel
theorem dX11_ryeRest_10 : decode cX11_ryeRest 10 = .ok (.idiv, 1) := by decide +kernel
theorem dX11_ryeRest_11 : decode cX11_ryeRest 11 = .ok (.invokevirtual 55, 3) := by decide +kernel
theorem dX11_ryeRest_14 : decode cX11_ryeRest 14 = .ok (.return_, 1) := by decide +kernel
theorem dX11_sourRest_0 : decode cX11_sourRest 0 = .ok (.aload_n 0, 1) := by decide +kernel
theorem dX11_sourRest_1 : decode cX11_sourRest 1 = .ok (.iconst 0, 1) := by decide +kernel
theorem dX11_sourRest_2 : decode cX11_sourRest 2 = .ok (.iconst 4, 1) := by decide +kernel
theorem dX11_sourRest_3 : decode cX11_sourRest 3 = .ok (.invokevirtual 51, 3) := by decide +kernel
theorem dX11_sourRest_6 : decode cX11_sourRest 6 = .ok (.aload_n 0, 1) := by decide +kernel
theorem dX11_sourRest_7 : decode cX11_sourRest 7 = .ok (.getfield 22, 3) := by decide +kernel
theorem dX11_sourRest_10 : decode cX11_sourRest 10 = .ok (.iload_n 1, 1) := by decide +kernel
theorem dX11_sourRest_11 : decode cX11_sourRest 11 = .ok (.dup2, 1) := by decide +kernel
theorem dX11_sourRest_12 : decode cX11_sourRest 12 = .ok (.iaload, 1) := by decide +kernel
theorem dX11_sourRest_13 : decode cX11_sourRest 13 = .ok (.iconst 1, 1) := by decide +kernel
theorem dX11_sourRest_14 : decode cX11_sourRest 14 = .ok (.iadd, 1) := by decide +kernel
theorem dX11_sourRest_15 : decode cX11_sourRest 15 = .ok (.iastore, 1) := by decide +kernel
theorem dX11_sourRest_16 : decode cX11_sourRest 16 = .ok (.aload_n 0, 1) := by decide +kernel
theorem dX11_sourRest_17 : decode cX11_sourRest 17 = .ok (.iload_n 1, 1) := by decide +kernel
theorem dX11_sourRest_18 : decode cX11_sourRest 18 = .ok (.iload_n 2, 1) := by decide +kernel
theorem dX11_sourRest_19 : decode cX11_sourRest 19 = .ok (.invokevirtual 58, 3) := by decide +kernel
theorem dX11_sourRest_22 : decode cX11_sourRest 22 = .ok (.return_, 1) := by decide +kernel
theorem dX11_rests_0 : decode cX11_rests 0 = .ok (.aload_n 0, 1) := by decide +kernel
theorem dX11_rests_1 : decode cX11_rests 1 = .ok (.iconst 0, 1) := by decide +kernel
theorem dX11_rests_2 : decode cX11_rests 2 = .ok (.putfield 61, 3) := by decide +kernel
theorem dX11_rests_5 : decode cX11_rests 5 = .ok (.aload_n 0, 1) := by decide +kernel
theorem dX11_rests_6 : decode cX11_rests 6 = .ok (.getfield 7, 3) := by decide +kernel
theorem dX11_rests_9 : decode cX11_rests 9 = .ok (.iload_n 1, 1) := by decide +kernel
theorem dX11_rests_10 : decode cX11_rests 10 = .ok (.iaload, 1) := by decide +kernel
theorem dX11_rests_11 : decode cX11_rests 11 = .ok (.tableswitch 127 2 7 #[37, 127, 46, 78, 127, 55], 37) := by decide +kernel
theorem dX11_rests_48 : decode cX11_rests 48 = .ok (.aload_n 0, 1) := by decide +kernel
theorem dX11_rests_49 : decode cX11_rests 49 = .ok (.iload_n 1, 1) := by decide +kernel
theorem dX11_rests_50 : decode cX11_rests 50 = .ok (.iload_n 2, 1) := by decide +kernel
theorem dX11_rests_51 : decode cX11_rests 51 = .ok (.invokevirtual 58, 3) := by decide +kernel
theorem dX11_rests_54 : decode cX11_rests 54 = .ok (.goto 90, 3) := by decide +kernel
theorem dX11_rests_57 : decode cX11_rests 57 = .ok (.aload_n 0, 1) := by decide +kernel
theorem dX11_rests_58 : decode cX11_rests 58 = .ok (.iload_n 1, 1) := by decide +kernel
theorem dX11_rests_59 : decode cX11_rests 59 = .ok (.iload_n 2, 1) := by decide +kernel
theorem dX11_rests_60 : decode cX11_rests 60 = .ok (.invokevirtual 65, 3) := by decide +kernel
theorem dX11_rests_63 : decode cX11_rests 63 = .ok (.goto 81, 3) := by decide +kernel
theorem dX11_rests_66 : decode cX11_rests 66 = .ok (.aload_n 0, 1) := by decide +kernel
theorem dX11_rests_67 : decode cX11_rests 67 = .ok (.iconst 0, 1) := by decide +kernel
theorem dX11_rests_68 : decode cX11_rests 68 = .ok (.bipush 7, 2) := by decide +kernel
theorem dX11_rests_70 : decode cX11_rests 70 = .ok (.invokevirtual 51, 3) := by decide +kernel
theorem dX11_rests_73 : decode cX11_rests 73 = .ok (.aload_n 0, 1) := by decide +kernel
theorem dX11_rests_74 : decode cX11_rests 74 = .ok (.iload_n 1, 1) := by decide +kernel
theorem dX11_rests_75 : decode cX11_rests 75 = .ok (.iload_n 2, 1) := by decide +kernel
theorem dX11_rests_76 : decode cX11_rests 76 = .ok (.aload_n 0, 1) := by decide +kernel
theorem dX11_rests_77 : decode cX11_rests 77 = .ok (.getfield 22, 3) := by decide +kernel
theorem dX11_rests_80 : decode cX11_rests 80 = .ok (.iload_n 1, 1) := by decide +kernel
theorem dX11_rests_81 : decode cX11_rests 81 = .ok (.iaload, 1) := by decide +kernel
theorem dX11_rests_82 : decode cX11_rests 82 = .ok (.iadd, 1) := by decide +kernel
theorem dX11_rests_83 : decode cX11_rests 83 = .ok (.invokevirtual 65, 3) := by decide +kernel
theorem dX11_rests_86 : decode cX11_rests 86 = .ok (.goto 58, 3) := by decide +kernel
theorem dX11_rests_89 : decode cX11_rests 89 = .ok (.aload_n 0, 1) := by decide +kernel
theorem dX11_rests_90 : decode cX11_rests 90 = .ok (.iconst 0, 1) := by decide +kernel
theorem dX11_rests_91 : decode cX11_rests 91 = .ok (.iconst 5, 1) := by decide +kernel
theorem dX11_rests_92 : decode cX11_rests 92 = .ok (.invokevirtual 51, 3) := by decide +kernel
theorem dX11_rests_95 : decode cX11_rests 95 = .ok (.aload_n 0, 1) := by decide +kernel
theorem dX11_rests_96 : decode cX11_rests 96 = .ok (.iload_n 1, 1) := by decide +kernel
theorem dX11_rests_97 : decode cX11_rests 97 = .ok (.iload_n 2, 1) := by decide +kernel
theorem dX11_rests_98 : decode cX11_rests 98 = .ok (.invokevirtual 55, 3) := by decide +kernel
theorem dX11_rests_101 : decode cX11_rests 101 = .ok (.aload_n 0, 1) := by decide +kernel
theorem dX11_rests_102 : decode cX11_rests 102 = .ok (.getfield 16, 3) := by decide +kernel
theorem dX11_rests_105 : decode cX11_rests 105 = .ok (.iload_n 1, 1) := by decide +kernel
theorem dX11_rests_106 : decode cX11_rests 106 = .ok (.iaload, 1) := by decide +kernel
theorem dX11_rests_107 : decode cX11_rests 107 = .ok (.bipush 90, 2) := by decide +kernel
theorem dX11_rests_109 : decode cX11_rests 109 = .ok (.if_icmp .lt 35, 3) := by decide +kernel
theorem dX11_rests_112 : decode cX11_rests 112 = .ok (.aload_n 0, 1) := by decide +kernel
theorem dX11_rests_113 : decode cX11_rests 113 = .ok (.getfield 16, 3) := by decide +kernel
theorem dX11_rests_116 : decode cX11_rests 116 = .ok (.iload_n 1, 1) := by decide +kernel
theorem dX11_rests_117 : decode cX11_rests 117 = .ok (.bipush 10, 2) := by decide +kernel
theorem dX11_rests_119 : decode cX11_rests 119 = .ok (.iastore, 1) := by decide +kernel
theorem dX11_rests_120 : decode cX11_rests 120 = .ok (.aload_n 0, 1) := by decide +kernel
theorem dX11_rests_121 : decode cX11_rests 121 = .ok (.iconst 1, 1) := by decide +kernel
theorem dX11_rests_122 : decode cX11_rests 122 = .ok (.putfield 61, 3) := by decide +kernel
theorem dX11_rests_125 : decode cX11_rests 125 = .ok (.aload_n 0, 1) := by decide +kernel
theorem dX11_rests_126 : decode cX11_rests 126 = .ok (.dup, 1) := by decide +kernel
theorem dX11_rests_127 : decode cX11_rests 127 = .ok (.getfield 68, 3) := by decide +kernel
theorem dX11_rests_130 : decode cX11_rests 130 = .ok (.iconst 1, 1) := by decide +kernel
theorem dX11_rests_131 : decode cX11_rests 131 = .ok (.iadd, 1) := by decide +kernel
theorem dX11_rests_132 : decode cX11_rests 132 = .ok (.putfield 68, 3) := by decide +kernel
theorem dX11_rests_135 : decode cX11_rests 135 = .ok (.goto 9, 3) := by decide +kernel
theorem dX11_rests_138 : decode cX11_rests 138 = .ok (.aload_n 0, 1) := by decide +kernel
theorem dX11_rests_139 : decode cX11_rests 139 = .ok (.iload_n 1, 1) := by decide +kernel
theorem dX11_rests_140 : decode cX11_rests 140 = .ok (.iload_n 2, 1) := by decide +kernel
theorem dX11_rests_141 : decode cX11_rests 141 = .ok (.invokevirtual 55, 3) := by decide +kernel
theorem dX11_rests_144 : decode cX11_rests 144 = .ok (.aload_n 0, 1) := by decide +kernel
theorem dX11_rests_145 : decode cX11_rests 145 = .ok (.getfield 16, 3) := by decide +kernel
theorem dX11_rests_148 : decode cX11_rests 148 = .ok (.iload_n 1, 1) := by decide +kernel
theorem dX11_rests_149 : decode cX11_rests 149 = .ok (.iaload, 1) := by decide +kernel
theorem dX11_rests_150 : decode cX11_rests 150 = .ok (.ireturn, 1) := by decide +kernel
theorem dX11_plainFold_0 : decode cX11_plainFold 0 = .ok (.aload_n 0, 1) := by decide +kernel
theorem dX11_plainFold_1 : decode cX11_plainFold 1 = .ok (.iconst 1, 1) := by decide +kernel
theorem dX11_plainFold_2 : decode cX11_plainFold 2 = .ok (.iconst 0, 1) := by decide +kernel
theorem dX11_plainFold_3 : decode cX11_plainFold 3 = .ok (.invokevirtual 51, 3) := by decide +kernel
theorem dX11_plainFold_6 : decode cX11_plainFold 6 = .ok (.aload_n 0, 1) := by decide +kernel
theorem dX11_plainFold_7 : decode cX11_plainFold 7 = .ok (.getfield 16, 3) := by decide +kernel
theorem dX11_plainFold_10 : decode cX11_plainFold 10 = .ok (.iload_n 1, 1) := by decide +kernel
theorem dX11_plainFold_11 : decode cX11_plainFold 11 = .ok (.aload_n 0, 1) := by decide +kernel
theorem dX11_plainFold_12 : decode cX11_plainFold 12 = .ok (.getfield 16, 3) := by decide +kernel
theorem dX11_plainFold_15 : decode cX11_plainFold 15 = .ok (.iload_n 1, 1) := by decide +kernel
theorem dX11_plainFold_16 : decode cX11_plainFold 16 = .ok (.iaload, 1) := by decide +kernel
theorem dX11_plainFold_17 : decode cX11_plainFold 17 = .ok (.iconst 2, 1) := by decide +kernel
theorem dX11_plainFold_18 : decode cX11_plainFold 18 = .ok (.idiv, 1) := by decide +kernel
theorem dX11_plainFold_19 : decode cX11_plainFold 19 = .ok (.iastore, 1) := by decide +kernel
theorem dX11_plainFold_20 : decode cX11_plainFold 20 = .ok (.aload_n 0, 1) := by decide +kernel
theorem dX11_plainFold_21 : decode cX11_plainFold 21 = .ok (.getfield 19, 3) := by decide +kernel
theorem dX11_plainFold_24 : decode cX11_plainFold 24 = .ok (.iload_n 1, 1) := by decide +kernel
theorem dX11_plainFold_25 : decode cX11_plainFold 25 = .ok (.dup2, 1) := by decide +kernel
theorem dX11_plainFold_26 : decode cX11_plainFold 26 = .ok (.iaload, 1) := by decide +kernel
theorem dX11_plainFold_27 : decode cX11_plainFold 27 = .ok (.iconst 1, 1) := by decide +kernel
theorem dX11_plainFold_28 : decode cX11_plainFold 28 = .ok (.iadd, 1) := by decide +kernel
theorem dX11_plainFold_29 : decode cX11_plainFold 29 = .ok (.iastore, 1) := by decide +kernel
theorem dX11_plainFold_30 : decode cX11_plainFold 30 = .ok (.return_, 1) := by decide +kernel
theorem dX11_folds_0 : decode cX11_folds 0 = .ok (.aload_n 0, 1) := by decide +kernel
theorem dX11_folds_1 : decode cX11_folds 1 = .ok (.getfield 7, 3) := by decide +kernel
theorem dX11_folds_4 : decode cX11_folds 4 = .ok (.iload_n 1, 1) := by decide +kernel
theorem dX11_folds_5 : decode cX11_folds 5 = .ok (.iaload, 1) := by decide +kernel
theorem dX11_folds_6 : decode cX11_folds 6 = .ok (.tableswitch 114 3 7 #[34, 53, 34, 94, 53], 34) := by decide +kernel
theorem dX11_folds_40 : decode cX11_folds 40 = .ok (.aload_n 0, 1) := by decide +kernel
theorem dX11_folds_41 : decode cX11_folds 41 = .ok (.iconst 1, 1) := by decide +kernel
theorem dX11_folds_42 : decode cX11_folds 42 = .ok (.iconst 3, 1) := by decide +kernel
theorem dX11_folds_43 : decode cX11_folds 43 = .ok (.invokevirtual 51, 3) := by decide +kernel
theorem dX11_folds_46 : decode cX11_folds 46 = .ok (.aload_n 0, 1) := by decide +kernel
theorem dX11_folds_47 : decode cX11_folds 47 = .ok (.iload_n 1, 1) := by decide +kernel
theorem dX11_folds_48 : decode cX11_folds 48 = .ok (.invokevirtual 71, 3) := by decide +kernel
theorem dX11_folds_51 : decode cX11_folds 51 = .ok (.aload_n 0, 1) := by decide +kernel
theorem dX11_folds_52 : decode cX11_folds 52 = .ok (.iload_n 1, 1) := by decide +kernel
theorem dX11_folds_53 : decode cX11_folds 53 = .ok (.invokevirtual 71, 3) := by decide +kernel
theorem dX11_folds_56 : decode cX11_folds 56 = .ok (.goto 69, 3) := by decide +kernel
theorem dX11_folds_59 : decode cX11_folds 59 = .ok (.aload_n 0, 1) := by decide +kernel
theorem dX11_folds_60 : decode cX11_folds 60 = .ok (.iconst 1, 1) := by decide +kernel
theorem dX11_folds_61 : decode cX11_folds 61 = .ok (.iconst 4, 1) := by decide +kernel
theorem dX11_folds_62 : decode cX11_folds 62 = .ok (.invokevirtual 51, 3) := by decide +kernel
theorem dX11_folds_65 : decode cX11_folds 65 = .ok (.aload_n 0, 1) := by decide +kernel
theorem dX11_folds_66 : decode cX11_folds 66 = .ok (.iload_n 1, 1) := by decide +kernel
theorem dX11_folds_67 : decode cX11_folds 67 = .ok (.invokevirtual 71, 3) := by decide +kernel
theorem dX11_folds_70 : decode cX11_folds 70 = .ok (.aload_n 0, 1) := by decide +kernel
theorem dX11_folds_71 : decode cX11_folds 71 = .ok (.getfield 22, 3) := by decide +kernel
theorem dX11_folds_74 : decode cX11_folds 74 = .ok (.iload_n 1, 1) := by decide +kernel
theorem dX11_folds_75 : decode cX11_folds 75 = .ok (.aload_n 0, 1) := by decide +kernel
theorem dX11_folds_76 : decode cX11_folds 76 = .ok (.getfield 22, 3) := by decide +kernel
theorem dX11_folds_79 : decode cX11_folds 79 = .ok (.iload_n 1, 1) := by decide +kernel
theorem dX11_folds_80 : decode cX11_folds 80 = .ok (.iaload, 1) := by decide +kernel
theorem dX11_folds_81 : decode cX11_folds 81 = .ok (.ifCond .le 14, 3) := by decide +kernel
theorem dX11_folds_84 : decode cX11_folds 84 = .ok (.aload_n 0, 1) := by decide +kernel
theorem dX11_folds_85 : decode cX11_folds 85 = .ok (.getfield 22, 3) := by decide +kernel
theorem dX11_folds_88 : decode cX11_folds 88 = .ok (.iload_n 1, 1) := by decide +kernel
theorem dX11_folds_89 : decode cX11_folds 89 = .ok (.iaload, 1) := by decide +kernel
theorem dX11_folds_90 : decode cX11_folds 90 = .ok (.iconst 1, 1) := by decide +kernel
theorem dX11_folds_91 : decode cX11_folds 91 = .ok (.isub, 1) := by decide +kernel
theorem dX11_folds_92 : decode cX11_folds 92 = .ok (.goto 4, 3) := by decide +kernel
theorem dX11_folds_95 : decode cX11_folds 95 = .ok (.iconst 0, 1) := by decide +kernel
theorem dX11_folds_96 : decode cX11_folds 96 = .ok (.iastore, 1) := by decide +kernel
theorem dX11_folds_97 : decode cX11_folds 97 = .ok (.goto 28, 3) := by decide +kernel
theorem dX11_folds_100 : decode cX11_folds 100 = .ok (.aload_n 0, 1) := by decide +kernel
theorem dX11_folds_101 : decode cX11_folds 101 = .ok (.iconst 1, 1) := by decide +kernel
theorem dX11_folds_102 : decode cX11_folds 102 = .ok (.bipush 6, 2) := by decide +kernel
theorem dX11_folds_104 : decode cX11_folds 104 = .ok (.invokevirtual 51, 3) := by decide +kernel
theorem dX11_folds_107 : decode cX11_folds 107 = .ok (.aload_n 0, 1) := by decide +kernel
theorem dX11_folds_108 : decode cX11_folds 108 = .ok (.getfield 19, 3) := by decide +kernel
theorem dX11_folds_111 : decode cX11_folds 111 = .ok (.iload_n 1, 1) := by decide +kernel
theorem dX11_folds_112 : decode cX11_folds 112 = .ok (.dup2, 1) := by decide +kernel
theorem dX11_folds_113 : decode cX11_folds 113 = .ok (.iaload, 1) := by decide +kernel
theorem dX11_folds_114 : decode cX11_folds 114 = .ok (.iconst 1, 1) := by decide +kernel
theorem dX11_folds_115 : decode cX11_folds 115 = .ok (.iadd, 1) := by decide +kernel
theorem dX11_folds_116 : decode cX11_folds 116 = .ok (.iastore, 1) := by decide +kernel
theorem dX11_folds_117 : decode cX11_folds 117 = .ok (.goto 8, 3) := by decide +kernel
theorem dX11_folds_120 : decode cX11_folds 120 = .ok (.aload_n 0, 1) := by decide +kernel
theorem dX11_folds_121 : decode cX11_folds 121 = .ok (.iload_n 1, 1) := by decide +kernel
theorem dX11_folds_122 : decode cX11_folds 122 = .ok (.invokevirtual 71, 3) := by decide +kernel
theorem dX11_folds_125 : decode cX11_folds 125 = .ok (.return_, 1) := by decide +kernel
theorem dX11_plainLay_0 : decode cX11_plainLay 0 = .ok (.aload_n 0, 1) := by decide +kernel
theorem dX11_plainLay_1 : decode cX11_plainLay 1 = .ok (.iconst 2, 1) := by decide +kernel
theorem dX11_plainLay_2 : decode cX11_plainLay 2 = .ok (.iconst 0, 1) := by decide +kernel
theorem dX11_plainLay_3 : decode cX11_plainLay 3 = .ok (.invokevirtual 51, 3) := by decide +kernel
theorem dX11_plainLay_6 : decode cX11_plainLay 6 = .ok (.aload_n 0, 1) := by decide +kernel
theorem dX11_plainLay_7 : decode cX11_plainLay 7 = .ok (.getfield 28, 3) := by decide +kernel
theorem dX11_plainLay_10 : decode cX11_plainLay 10 = .ok (.iload_n 2, 1) := by decide +kernel
theorem dX11_plainLay_11 : decode cX11_plainLay 11 = .ok (.iaload, 1) := by decide +kernel
theorem dX11_plainLay_12 : decode cX11_plainLay 12 = .ok (.iconst (-1), 1) := by decide +kernel
theorem dX11_plainLay_13 : decode cX11_plainLay 13 = .ok (.if_icmp .ne 7, 3) := by decide +kernel
theorem dX11_plainLay_16 : decode cX11_plainLay 16 = .ok (.iconst 1, 1) := by decide +kernel
theorem dX11_plainLay_17 : decode cX11_plainLay 17 = .ok (.goto 24, 3) := by decide +kernel
theorem dX11_plainLay_20 : decode cX11_plainLay 20 = .ok (.iload_n 3, 1) := by decide +kernel
theorem dX11_plainLay_21 : decode cX11_plainLay 21 = .ok (.iconst 0, 1) := by decide +kernel
theorem dX11_plainLay_22 : decode cX11_plainLay 22 = .ok (.aload_n 0, 1) := by decide +kernel
theorem dX11_plainLay_23 : decode cX11_plainLay 23 = .ok (.getfield 28, 3) := by decide +kernel
theorem dX11_plainLay_26 : decode cX11_plainLay 26 = .ok (.iload_n 2, 1) := by decide +kernel
theorem dX11_plainLay_27 : decode cX11_plainLay 27 = .ok (.iaload, 1) := by decide +kernel
theorem dX11_plainLay_28 : decode cX11_plainLay 28 = .ok (.iconst 1, 1) := by decide +kernel
theorem dX11_plainLay_29 : decode cX11_plainLay 29 = .ok (.isub, 1) := by decide +kernel
theorem dX11_plainLay_30 : decode cX11_plainLay 30 = .ok (.invokestatic 44, 3) := by decide +kernel
theorem dX11_plainLay_33 : decode cX11_plainLay 33 = .ok (.ifCond .eq 7, 3) := by decide +kernel
theorem dX11_plainLay_36 : decode cX11_plainLay 36 = .ok (.iconst 0, 1) := by decide +kernel
theorem dX11_plainLay_37 : decode cX11_plainLay 37 = .ok (.goto 4, 3) := by decide +kernel
theorem dX11_plainLay_40 : decode cX11_plainLay 40 = .ok (.iconst 2, 1) := by decide +kernel
theorem dX11_plainLay_41 : decode cX11_plainLay 41 = .ok (.istore 4, 2) := by decide +kernel
theorem dX11_plainLay_43 : decode cX11_plainLay 43 = .ok (.iload 4, 2) := by decide +kernel
theorem dX11_plainLay_45 : decode cX11_plainLay 45 = .ok (.ifCond .ne 15, 3) := by decide +kernel
theorem dX11_plainLay_48 : decode cX11_plainLay 48 = .ok (.aload_n 0, 1) := by decide +kernel
theorem dX11_plainLay_49 : decode cX11_plainLay 49 = .ok (.getfield 31, 3) := by decide +kernel
theorem dX11_plainLay_52 : decode cX11_plainLay 52 = .ok (.bipush 8, 2) := by decide +kernel
theorem dX11_plainLay_54 : decode cX11_plainLay 54 = .ok (.iload_n 2, 1) := by decide +kernel
theorem dX11_plainLay_55 : decode cX11_plainLay 55 = .ok (.imul, 1) := by decide +kernel
theorem dX11_plainLay_56 : decode cX11_plainLay 56 = .ok (.iload_n 3, 1) := by decide +kernel
theorem dX11_plainLay_57 : decode cX11_plainLay 57 = .ok (.iadd, 1) := by decide +kernel
theorem dX11_plainLay_58 : decode cX11_plainLay 58 = .ok (.iload_n 1, 1) := by decide +kernel
theorem dX11_plainLay_59 : decode cX11_plainLay 59 = .ok (.iastore, 1) := by decide +kernel
theorem dX11_plainLay_60 : decode cX11_plainLay 60 = .ok (.iload 4, 2) := by decide +kernel
theorem dX11_plainLay_62 : decode cX11_plainLay 62 = .ok (.ireturn, 1) := by decide +kernel
theorem dX11_lays_0 : decode cX11_lays 0 = .ok (.aload_n 0, 1) := by decide +kernel
theorem dX11_lays_1 : decode cX11_lays 1 = .ok (.getfield 7, 3) := by decide +kernel
theorem dX11_lays_4 : decode cX11_lays 4 = .ok (.iload_n 1, 1) := by decide +kernel
theorem dX11_lays_5 : decode cX11_lays 5 = .ok (.iaload, 1) := by decide +kernel
theorem dX11_lays_6 : decode cX11_lays 6 = .ok (.tableswitch 98 5 7 #[26, 61, 78], 26) := by decide +kernel
theorem dX11_lays_32 : decode cX11_lays 32 = .ok (.aload_n 0, 1) := by decide +kernel
theorem dX11_lays_33 : decode cX11_lays 33 = .ok (.iconst 2, 1) := by decide +kernel
theorem dX11_lays_34 : decode cX11_lays 34 = .ok (.iconst 5, 1) := by decide +kernel
theorem dX11_lays_35 : decode cX11_lays 35 = .ok (.invokevirtual 51, 3) := by decide +kernel
theorem dX11_lays_38 : decode cX11_lays 38 = .ok (.aload_n 0, 1) := by decide +kernel
theorem dX11_lays_39 : decode cX11_lays 39 = .ok (.iload_n 1, 1) := by decide +kernel
theorem dX11_lays_40 : decode cX11_lays 40 = .ok (.iload_n 2, 1) := by decide +kernel
theorem dX11_lays_41 : decode cX11_lays 41 = .ok (.iload_n 3, 1) := by decide +kernel
theorem dX11_lays_42 : decode cX11_lays 42 = .ok (.invokevirtual 75, 3) := by decide +kernel
theorem dX11_lays_45 : decode cX11_lays 45 = .ok (.istore 4, 2) := by decide +kernel
theorem dX11_lays_47 : decode cX11_lays 47 = .ok (.iload 4, 2) := by decide +kernel
theorem dX11_lays_49 : decode cX11_lays 49 = .ok (.ifCond .le 8, 3) := by decide +kernel
theorem dX11_lays_52 : decode cX11_lays 52 = .ok (.iload 4, 2) := by decide +kernel
theorem dX11_lays_54 : decode cX11_lays 54 = .ok (.goto 12, 3) := by decide +kernel
theorem dX11_lays_57 : decode cX11_lays 57 = .ok (.aload_n 0, 1) := by decide +kernel
theorem dX11_lays_58 : decode cX11_lays 58 = .ok (.iload_n 1, 1) := by decide +kernel
theorem dX11_lays_59 : decode cX11_lays 59 = .ok (.iload_n 2, 1) := by decide +kernel
theorem dX11_lays_60 : decode cX11_lays 60 = .ok (.iload_n 3, 1) := by decide +kernel
theorem dX11_lays_61 : decode cX11_lays 61 = .ok (.iconst 1, 1) := by decide +kernel
theorem dX11_lays_62 : decode cX11_lays 62 = .ok (.iadd, 1) := by decide +kernel
theorem dX11_lays_63 : decode cX11_lays 63 = .ok (.invokevirtual 75, 3) := by decide +kernel
theorem dX11_lays_66 : decode cX11_lays 66 = .ok (.ireturn, 1) := by decide +kernel
theorem dX11_lays_67 : decode cX11_lays 67 = .ok (.aload_n 0, 1) := by decide +kernel
theorem dX11_lays_68 : decode cX11_lays 68 = .ok (.iconst 2, 1) := by decide +kernel
theorem dX11_lays_69 : decode cX11_lays 69 = .ok (.bipush 6, 2) := by decide +kernel
theorem dX11_lays_71 : decode cX11_lays 71 = .ok (.invokevirtual 51, 3) := by decide +kernel
theorem dX11_lays_74 : decode cX11_lays 74 = .ok (.aload_n 0, 1) := by decide +kernel
theorem dX11_lays_75 : decode cX11_lays 75 = .ok (.iload_n 1, 1) := by decide +kernel
theorem dX11_lays_76 : decode cX11_lays 76 = .ok (.iload_n 2, 1) := by decide +kernel
theorem dX11_lays_77 : decode cX11_lays 77 = .ok (.iload_n 3, 1) := by decide +kernel
theorem dX11_lays_78 : decode cX11_lays 78 = .ok (.iconst 2, 1) := by decide +kernel
theorem dX11_lays_79 : decode cX11_lays 79 = .ok (.idiv, 1) := by decide +kernel
theorem dX11_lays_80 : decode cX11_lays 80 = .ok (.invokevirtual 75, 3) := by decide +kernel
theorem dX11_lays_83 : decode cX11_lays 83 = .ok (.ireturn, 1) := by decide +kernel
theorem dX11_lays_84 : decode cX11_lays 84 = .ok (.aload_n 0, 1) := by decide +kernel
theorem dX11_lays_85 : decode cX11_lays 85 = .ok (.iconst 2, 1) := by decide +kernel
theorem dX11_lays_86 : decode cX11_lays 86 = .ok (.bipush 7, 2) := by decide +kernel
theorem dX11_lays_88 : decode cX11_lays 88 = .ok (.invokevirtual 51, 3) := by decide +kernel
theorem dX11_lays_91 : decode cX11_lays 91 = .ok (.aload_n 0, 1) := by decide +kernel
theorem dX11_lays_92 : decode cX11_lays 92 = .ok (.iload_n 1, 1) := by decide +kernel
theorem dX11_lays_93 : decode cX11_lays 93 = .ok (.invokevirtual 79, 3) := by decide +kernel
theorem dX11_lays_96 : decode cX11_lays 96 = .ok (.aload_n 0, 1) := by decide +kernel
theorem dX11_lays_97 : decode cX11_lays 97 = .ok (.iload_n 1, 1) := by decide +kernel
theorem dX11_lays_98 : decode cX11_lays 98 = .ok (.iload_n 2, 1) := by decide +kernel
theorem dX11_lays_99 : decode cX11_lays 99 = .ok (.iload_n 3, 1) := by decide +kernel
theorem dX11_lays_100 : decode cX11_lays 100 = .ok (.invokevirtual 75, 3) := by decide +kernel
theorem dX11_lays_103 : decode cX11_lays 103 = .ok (.ireturn, 1) := by decide +kernel
theorem dX11_lays_104 : decode cX11_lays 104 = .ok (.aload_n 0, 1) := by decide +kernel
theorem dX11_lays_105 : decode cX11_lays 105 = .ok (.iload_n 1, 1) := by decide +kernel
theorem dX11_lays_106 : decode cX11_lays 106 = .ok (.iload_n 2, 1) := by decide +kernel
theorem dX11_lays_107 : decode cX11_lays 107 = .ok (.iload_n 3, 1) := by decide +kernel
theorem dX11_lays_108 : decode cX11_lays 108 = .ok (.invokevirtual 75, 3) := by decide +kernel
theorem dX11_lays_111 : decode cX11_lays 111 = .ok (.ireturn, 1) := by decide +kernel
theorem dX11_plainBake_0 : decode cX11_plainBake 0 = .ok (.aload_n 0, 1) := by decide +kernel
theorem dX11_plainBake_1 : decode cX11_plainBake 1 = .ok (.iconst 3, 1) := by decide +kernel
theorem dX11_plainBake_2 : decode cX11_plainBake 2 = .ok (.iconst 0, 1) := by decide +kernel
theorem dX11_plainBake_3 : decode cX11_plainBake 3 = .ok (.invokevirtual 51, 3) := by decide +kernel
theorem dX11_plainBake_6 : decode cX11_plainBake 6 = .ok (.aload_n 0, 1) := by decide +kernel
theorem dX11_plainBake_7 : decode cX11_plainBake 7 = .ok (.getfield 25, 3) := by decide +kernel
theorem dX11_plainBake_10 : decode cX11_plainBake 10 = .ok (.iload_n 1, 1) := by decide +kernel
theorem dX11_plainBake_11 : decode cX11_plainBake 11 = .ok (.dup2, 1) := by decide +kernel
theorem dX11_plainBake_12 : decode cX11_plainBake 12 = .ok (.iaload, 1) := by decide +kernel
theorem dX11_plainBake_13 : decode cX11_plainBake 13 = .ok (.iload_n 2, 1) := by decide +kernel
theorem dX11_plainBake_14 : decode cX11_plainBake 14 = .ok (.aload_n 0, 1) := by decide +kernel
theorem dX11_plainBake_15 : decode cX11_plainBake 15 = .ok (.getfield 16, 3) := by decide +kernel
theorem dX11_plainBake_18 : decode cX11_plainBake 18 = .ok (.iload_n 1, 1) := by decide +kernel
theorem dX11_plainBake_19 : decode cX11_plainBake 19 = .ok (.iaload, 1) := by decide +kernel
theorem dX11_plainBake_20 : decode cX11_plainBake 20 = .ok (.iadd, 1) := by decide +kernel
theorem dX11_plainBake_21 : decode cX11_plainBake 21 = .ok (.bipush 10, 2) := by decide +kernel
theorem dX11_plainBake_23 : decode cX11_plainBake 23 = .ok (.idiv, 1) := by decide +kernel
theorem dX11_plainBake_24 : decode cX11_plainBake 24 = .ok (.iadd, 1) := by decide +kernel
theorem dX11_plainBake_25 : decode cX11_plainBake 25 = .ok (.iastore, 1) := by decide +kernel
theorem dX11_plainBake_26 : decode cX11_plainBake 26 = .ok (.aload_n 0, 1) := by decide +kernel
theorem dX11_plainBake_27 : decode cX11_plainBake 27 = .ok (.getfield 25, 3) := by decide +kernel
theorem dX11_plainBake_30 : decode cX11_plainBake 30 = .ok (.iload_n 1, 1) := by decide +kernel
theorem dX11_plainBake_31 : decode cX11_plainBake 31 = .ok (.iaload, 1) := by decide +kernel
theorem dX11_plainBake_32 : decode cX11_plainBake 32 = .ok (.bipush 20, 2) := by decide +kernel
theorem dX11_plainBake_34 : decode cX11_plainBake 34 = .ok (.if_icmp .lt 7, 3) := by decide +kernel
theorem dX11_plainBake_37 : decode cX11_plainBake 37 = .ok (.iconst 1, 1) := by decide +kernel
theorem dX11_plainBake_38 : decode cX11_plainBake 38 = .ok (.goto 4, 3) := by decide +kernel
theorem dX11_plainBake_41 : decode cX11_plainBake 41 = .ok (.iconst 0, 1) := by decide +kernel
theorem dX11_plainBake_42 : decode cX11_plainBake 42 = .ok (.ireturn, 1) := by decide +kernel
theorem dX11_bakes_0 : decode cX11_bakes 0 = .ok (.aload_n 0, 1) := by decide +kernel
theorem dX11_bakes_1 : decode cX11_bakes 1 = .ok (.getfield 7, 3) := by decide +kernel
theorem dX11_bakes_4 : decode cX11_bakes 4 = .ok (.iload_n 1, 1) := by decide +kernel
theorem dX11_bakes_5 : decode cX11_bakes 5 = .ok (.iaload, 1) := by decide +kernel
theorem dX11_bakes_6 : decode cX11_bakes 6 = .ok (.tableswitch 146 2 7 #[38, 54, 88, 54, 130, 88], 38) := by decide +kernel
theorem dX11_bakes_44 : decode cX11_bakes 44 = .ok (.aload_n 0, 1) := by decide +kernel
theorem dX11_bakes_45 : decode cX11_bakes 45 = .ok (.iconst 3, 1) := by decide +kernel
theorem dX11_bakes_46 : decode cX11_bakes 46 = .ok (.iconst 2, 1) := by decide +kernel
theorem dX11_bakes_47 : decode cX11_bakes 47 = .ok (.invokevirtual 51, 3) := by decide +kernel
theorem dX11_bakes_50 : decode cX11_bakes 50 = .ok (.aload_n 0, 1) := by decide +kernel
theorem dX11_bakes_51 : decode cX11_bakes 51 = .ok (.iload_n 1, 1) := by decide +kernel
theorem dX11_bakes_52 : decode cX11_bakes 52 = .ok (.iload_n 2, 1) := by decide +kernel
theorem dX11_bakes_53 : decode cX11_bakes 53 = .ok (.bipush 30, 2) := by decide +kernel
theorem dX11_bakes_55 : decode cX11_bakes 55 = .ok (.isub, 1) := by decide +kernel
theorem dX11_bakes_56 : decode cX11_bakes 56 = .ok (.invokevirtual 81, 3) := by decide +kernel
theorem dX11_bakes_59 : decode cX11_bakes 59 = .ok (.ireturn, 1) := by decide +kernel
theorem dX11_bakes_60 : decode cX11_bakes 60 = .ok (.aload_n 0, 1) := by decide +kernel
theorem dX11_bakes_61 : decode cX11_bakes 61 = .ok (.iconst 3, 1) := by decide +kernel
theorem dX11_bakes_62 : decode cX11_bakes 62 = .ok (.iconst 3, 1) := by decide +kernel
theorem dX11_bakes_63 : decode cX11_bakes 63 = .ok (.invokevirtual 51, 3) := by decide +kernel
theorem dX11_bakes_66 : decode cX11_bakes 66 = .ok (.aload_n 0, 1) := by decide +kernel
theorem dX11_bakes_67 : decode cX11_bakes 67 = .ok (.iload_n 1, 1) := by decide +kernel
theorem dX11_bakes_68 : decode cX11_bakes 68 = .ok (.iload_n 2, 1) := by decide +kernel
theorem dX11_bakes_69 : decode cX11_bakes 69 = .ok (.invokevirtual 81, 3) := by decide +kernel
theorem dX11_bakes_72 : decode cX11_bakes 72 = .ok (.istore_n 3, 1) := by decide +kernel
theorem dX11_bakes_73 : decode cX11_bakes 73 = .ok (.iload_n 3, 1) := by decide +kernel
theorem dX11_bakes_74 : decode cX11_bakes 74 = .ok (.ifCond .eq 18, 3) := by decide +kernel
theorem dX11_bakes_77 : decode cX11_bakes 77 = .ok (.aload_n 0, 1) := by decide +kernel
theorem dX11_bakes_78 : decode cX11_bakes 78 = .ok (.getfield 25, 3) := by decide +kernel
theorem dX11_bakes_81 : decode cX11_bakes 81 = .ok (.iload_n 1, 1) := by decide +kernel
theorem dX11_bakes_82 : decode cX11_bakes 82 = .ok (.iaload, 1) := by decide +kernel
theorem dX11_bakes_83 : decode cX11_bakes 83 = .ok (.bipush 60, 2) := by decide +kernel
theorem dX11_bakes_85 : decode cX11_bakes 85 = .ok (.if_icmp .gt 7, 3) := by decide +kernel
theorem dX11_bakes_88 : decode cX11_bakes 88 = .ok (.iconst 1, 1) := by decide +kernel
theorem dX11_bakes_89 : decode cX11_bakes 89 = .ok (.goto 4, 3) := by decide +kernel
theorem dX11_bakes_92 : decode cX11_bakes 92 = .ok (.iconst 0, 1) := by decide +kernel
theorem dX11_bakes_93 : decode cX11_bakes 93 = .ok (.ireturn, 1) := by decide +kernel
theorem dX11_bakes_94 : decode cX11_bakes 94 = .ok (.aload_n 0, 1) := by decide +kernel
theorem dX11_bakes_95 : decode cX11_bakes 95 = .ok (.iconst 3, 1) := by decide +kernel
theorem dX11_bakes_96 : decode cX11_bakes 96 = .ok (.iconst 4, 1) := by decide +kernel
theorem dX11_bakes_97 : decode cX11_bakes 97 = .ok (.invokevirtual 51, 3) := by decide +kernel
theorem dX11_bakes_100 : decode cX11_bakes 100 = .ok (.aload_n 0, 1) := by decide +kernel
theorem dX11_bakes_101 : decode cX11_bakes 101 = .ok (.iconst 3, 1) := by decide +kernel
theorem dX11_bakes_102 : decode cX11_bakes 102 = .ok (.iconst 2, 1) := by decide +kernel
theorem dX11_bakes_103 : decode cX11_bakes 103 = .ok (.invokevirtual 51, 3) := by decide +kernel
theorem dX11_bakes_106 : decode cX11_bakes 106 = .ok (.aload_n 0, 1) := by decide +kernel
theorem dX11_bakes_107 : decode cX11_bakes 107 = .ok (.iload_n 1, 1) := by decide +kernel
theorem dX11_bakes_108 : decode cX11_bakes 108 = .ok (.iload_n 2, 1) := by decide +kernel
theorem dX11_bakes_109 : decode cX11_bakes 109 = .ok (.bipush 30, 2) := by decide +kernel
theorem dX11_bakes_111 : decode cX11_bakes 111 = .ok (.isub, 1) := by decide +kernel
theorem dX11_bakes_112 : decode cX11_bakes 112 = .ok (.invokevirtual 81, 3) := by decide +kernel
theorem dX11_bakes_115 : decode cX11_bakes 115 = .ok (.istore_n 3, 1) := by decide +kernel
theorem dX11_bakes_116 : decode cX11_bakes 116 = .ok (.iload_n 3, 1) := by decide +kernel
theorem dX11_bakes_117 : decode cX11_bakes 117 = .ok (.ifCond .ne 13, 3) := by decide +kernel
theorem dX11_bakes_120 : decode cX11_bakes 120 = .ok (.aload_n 0, 1) := by decide +kernel
theorem dX11_bakes_121 : decode cX11_bakes 121 = .ok (.getfield 22, 3) := by decide +kernel
theorem dX11_bakes_124 : decode cX11_bakes 124 = .ok (.iload_n 1, 1) := by decide +kernel
theorem dX11_bakes_125 : decode cX11_bakes 125 = .ok (.iaload, 1) := by decide +kernel
theorem dX11_bakes_126 : decode cX11_bakes 126 = .ok (.iconst 5, 1) := by decide +kernel
theorem dX11_bakes_127 : decode cX11_bakes 127 = .ok (.if_icmp .le 7, 3) := by decide +kernel
theorem dX11_bakes_130 : decode cX11_bakes 130 = .ok (.iconst 1, 1) := by decide +kernel
theorem dX11_bakes_131 : decode cX11_bakes 131 = .ok (.goto 4, 3) := by decide +kernel
theorem dX11_bakes_134 : decode cX11_bakes 134 = .ok (.iconst 0, 1) := by decide +kernel
theorem dX11_bakes_135 : decode cX11_bakes 135 = .ok (.ireturn, 1) := by decide +kernel
theorem dX11_bakes_136 : decode cX11_bakes 136 = .ok (.aload_n 0, 1) := by decide +kernel
theorem dX11_bakes_137 : decode cX11_bakes 137 = .ok (.iconst 3, 1) := by decide +kernel
theorem dX11_bakes_138 : decode cX11_bakes 138 = .ok (.bipush 6, 2) := by decide +kernel
theorem dX11_bakes_140 : decode cX11_bakes 140 = .ok (.invokevirtual 51, 3) := by decide +kernel
theorem dX11_bakes_143 : decode cX11_bakes 143 = .ok (.aload_n 0, 1) := by decide +kernel
theorem dX11_bakes_144 : decode cX11_bakes 144 = .ok (.iload_n 1, 1) := by decide +kernel
theorem dX11_bakes_145 : decode cX11_bakes 145 = .ok (.iconst 2, 1) := by decide +kernel
theorem dX11_bakes_146 : decode cX11_bakes 146 = .ok (.iload_n 2, 1) := by decide +kernel
theorem dX11_bakes_147 : decode cX11_bakes 147 = .ok (.imul, 1) := by decide +kernel
theorem dX11_bakes_148 : decode cX11_bakes 148 = .ok (.invokevirtual 81, 3) := by decide +kernel
theorem dX11_bakes_151 : decode cX11_bakes 151 = .ok (.ireturn, 1) := by decide +kernel
theorem dX11_bakes_152 : decode cX11_bakes 152 = .ok (.aload_n 0, 1) := by decide +kernel
theorem dX11_bakes_153 : decode cX11_bakes 153 = .ok (.iload_n 1, 1) := by decide +kernel
theorem dX11_bakes_154 : decode cX11_bakes 154 = .ok (.iload_n 2, 1) := by decide +kernel
theorem dX11_bakes_155 : decode cX11_bakes 155 = .ok (.invokevirtual 81, 3) := by decide +kernel
theorem dX11_bakes_158 : decode cX11_bakes 158 = .ok (.ireturn, 1) := by decide +kernel
theorem dX11_plainWorth_0 : decode cX11_plainWorth 0 = .ok (.aload_n 0, 1) := by decide +kernel
theorem dX11_plainWorth_1 : decode cX11_plainWorth 1 = .ok (.iconst 4, 1) := by decide +kernel
theorem dX11_plainWorth_2 : decode cX11_plainWorth 2 = .ok (.iconst 0, 1) := by decide +kernel
theorem dX11_plainWorth_3 : decode cX11_plainWorth 3 = .ok (.invokevirtual 51, 3) := by decide +kernel
theorem dX11_plainWorth_6 : decode cX11_plainWorth 6 = .ok (.aload_n 0, 1) := by decide +kernel
theorem dX11_plainWorth_7 : decode cX11_plainWorth 7 = .ok (.getfield 13, 3) := by decide +kernel
theorem dX11_plainWorth_10 : decode cX11_plainWorth 10 = .ok (.iload_n 1, 1) := by decide +kernel
theorem dX11_plainWorth_11 : decode cX11_plainWorth 11 = .ok (.iaload, 1) := by decide +kernel
theorem dX11_plainWorth_12 : decode cX11_plainWorth 12 = .ok (.bipush 10, 2) := by decide +kernel
theorem dX11_plainWorth_14 : decode cX11_plainWorth 14 = .ok (.idiv, 1) := by decide +kernel
theorem dX11_plainWorth_15 : decode cX11_plainWorth 15 = .ok (.iconst 2, 1) := by decide +kernel
theorem dX11_plainWorth_16 : decode cX11_plainWorth 16 = .ok (.aload_n 0, 1) := by decide +kernel
theorem dX11_plainWorth_17 : decode cX11_plainWorth 17 = .ok (.getfield 19, 3) := by decide +kernel
theorem dX11_plainWorth_20 : decode cX11_plainWorth 20 = .ok (.iload_n 1, 1) := by decide +kernel
theorem dX11_plainWorth_21 : decode cX11_plainWorth 21 = .ok (.iaload, 1) := by decide +kernel
theorem dX11_plainWorth_22 : decode cX11_plainWorth 22 = .ok (.imul, 1) := by decide +kernel
theorem dX11_plainWorth_23 : decode cX11_plainWorth 23 = .ok (.iadd, 1) := by decide +kernel
theorem dX11_plainWorth_24 : decode cX11_plainWorth 24 = .ok (.ireturn, 1) := by decide +kernel
theorem dX11_worthOf_0 : decode cX11_worthOf 0 = .ok (.aload_n 0, 1) := by decide +kernel
theorem dX11_worthOf_1 : decode cX11_worthOf 1 = .ok (.iconst 0, 1) := by decide +kernel
theorem dX11_worthOf_2 : decode cX11_worthOf 2 = .ok (.putfield 85, 3) := by decide +kernel
theorem dX11_worthOf_5 : decode cX11_worthOf 5 = .ok (.aload_n 0, 1) := by decide +kernel
theorem dX11_worthOf_6 : decode cX11_worthOf 6 = .ok (.getfield 7, 3) := by decide +kernel
theorem dX11_worthOf_9 : decode cX11_worthOf 9 = .ok (.iload_n 1, 1) := by decide +kernel
theorem dX11_worthOf_10 : decode cX11_worthOf 10 = .ok (.iaload, 1) := by decide +kernel
theorem dX11_worthOf_11 : decode cX11_worthOf 11 = .ok (.tableswitch 173 4 7 #[29, 91, 105, 48], 29) := by decide +kernel
theorem dX11_worthOf_40 : decode cX11_worthOf 40 = .ok (.aload_n 0, 1) := by decide +kernel
theorem dX11_worthOf_41 : decode cX11_worthOf 41 = .ok (.iconst 4, 1) := by decide +kernel
theorem dX11_worthOf_42 : decode cX11_worthOf 42 = .ok (.iconst 4, 1) := by decide +kernel
theorem dX11_worthOf_43 : decode cX11_worthOf 43 = .ok (.invokevirtual 51, 3) := by decide +kernel
theorem dX11_worthOf_46 : decode cX11_worthOf 46 = .ok (.aload_n 0, 1) := by decide +kernel
theorem dX11_worthOf_47 : decode cX11_worthOf 47 = .ok (.iload_n 1, 1) := by decide +kernel
theorem dX11_worthOf_48 : decode cX11_worthOf 48 = .ok (.invokevirtual 88, 3) := by decide +kernel
theorem dX11_worthOf_51 : decode cX11_worthOf 51 = .ok (.aload_n 0, 1) := by decide +kernel
theorem dX11_worthOf_52 : decode cX11_worthOf 52 = .ok (.getfield 22, 3) := by decide +kernel
theorem dX11_worthOf_55 : decode cX11_worthOf 55 = .ok (.iload_n 1, 1) := by decide +kernel
theorem dX11_worthOf_56 : decode cX11_worthOf 56 = .ok (.iaload, 1) := by decide +kernel
theorem dX11_worthOf_57 : decode cX11_worthOf 57 = .ok (.iadd, 1) := by decide +kernel
theorem dX11_worthOf_58 : decode cX11_worthOf 58 = .ok (.ireturn, 1) := by decide +kernel
theorem dX11_worthOf_59 : decode cX11_worthOf 59 = .ok (.aload_n 0, 1) := by decide +kernel
theorem dX11_worthOf_60 : decode cX11_worthOf 60 = .ok (.iconst 4, 1) := by decide +kernel
theorem dX11_worthOf_61 : decode cX11_worthOf 61 = .ok (.bipush 7, 2) := by decide +kernel
theorem dX11_worthOf_63 : decode cX11_worthOf 63 = .ok (.invokevirtual 51, 3) := by decide +kernel
theorem dX11_worthOf_66 : decode cX11_worthOf 66 = .ok (.aload_n 0, 1) := by decide +kernel
theorem dX11_worthOf_67 : decode cX11_worthOf 67 = .ok (.iconst 4, 1) := by decide +kernel
theorem dX11_worthOf_68 : decode cX11_worthOf 68 = .ok (.iconst 4, 1) := by decide +kernel
theorem dX11_worthOf_69 : decode cX11_worthOf 69 = .ok (.invokevirtual 51, 3) := by decide +kernel
theorem dX11_worthOf_72 : decode cX11_worthOf 72 = .ok (.aload_n 0, 1) := by decide +kernel
theorem dX11_worthOf_73 : decode cX11_worthOf 73 = .ok (.iload_n 1, 1) := by decide +kernel
theorem dX11_worthOf_74 : decode cX11_worthOf 74 = .ok (.invokevirtual 88, 3) := by decide +kernel
theorem dX11_worthOf_77 : decode cX11_worthOf 77 = .ok (.aload_n 0, 1) := by decide +kernel
theorem dX11_worthOf_78 : decode cX11_worthOf 78 = .ok (.getfield 22, 3) := by decide +kernel
theorem dX11_worthOf_81 : decode cX11_worthOf 81 = .ok (.iload_n 1, 1) := by decide +kernel
theorem dX11_worthOf_82 : decode cX11_worthOf 82 = .ok (.iaload, 1) := by decide +kernel
theorem dX11_worthOf_83 : decode cX11_worthOf 83 = .ok (.iadd, 1) := by decide +kernel
theorem dX11_worthOf_84 : decode cX11_worthOf 84 = .ok (.aload_n 0, 1) := by decide +kernel
theorem dX11_worthOf_85 : decode cX11_worthOf 85 = .ok (.getfield 25, 3) := by decide +kernel
theorem dX11_worthOf_88 : decode cX11_worthOf 88 = .ok (.iload_n 1, 1) := by decide +kernel
theorem dX11_worthOf_89 : decode cX11_worthOf 89 = .ok (.iaload, 1) := by decide +kernel
theorem dX11_worthOf_90 : decode cX11_worthOf 90 = .ok (.bipush 20, 2) := by decide +kernel
theorem dX11_worthOf_92 : decode cX11_worthOf 92 = .ok (.if_icmp .lt 7, 3) := by decide +kernel
theorem dX11_worthOf_95 : decode cX11_worthOf 95 = .ok (.iconst 5, 1) := by decide +kernel
theorem dX11_worthOf_96 : decode cX11_worthOf 96 = .ok (.goto 4, 3) := by decide +kernel
theorem dX11_worthOf_99 : decode cX11_worthOf 99 = .ok (.iconst 0, 1) := by decide +kernel
theorem dX11_worthOf_100 : decode cX11_worthOf 100 = .ok (.iadd, 1) := by decide +kernel
theorem dX11_worthOf_101 : decode cX11_worthOf 101 = .ok (.ireturn, 1) := by decide +kernel
theorem dX11_worthOf_102 : decode cX11_worthOf 102 = .ok (.aload_n 0, 1) := by decide +kernel
theorem dX11_worthOf_103 : decode cX11_worthOf 103 = .ok (.iconst 4, 1) := by decide +kernel
theorem dX11_worthOf_104 : decode cX11_worthOf 104 = .ok (.iconst 5, 1) := by decide +kernel
theorem dX11_worthOf_105 : decode cX11_worthOf 105 = .ok (.invokevirtual 51, 3) := by decide +kernel
theorem dX11_worthOf_108 : decode cX11_worthOf 108 = .ok (.iconst 2, 1) := by decide +kernel
theorem dX11_worthOf_109 : decode cX11_worthOf 109 = .ok (.aload_n 0, 1) := by decide +kernel
theorem dX11_worthOf_110 : decode cX11_worthOf 110 = .ok (.iload_n 1, 1) := by decide +kernel
theorem dX11_worthOf_111 : decode cX11_worthOf 111 = .ok (.invokevirtual 88, 3) := by decide +kernel
theorem dX11_worthOf_114 : decode cX11_worthOf 114 = .ok (.imul, 1) := by decide +kernel
theorem dX11_worthOf_115 : decode cX11_worthOf 115 = .ok (.ireturn, 1) := by decide +kernel
theorem dX11_worthOf_116 : decode cX11_worthOf 116 = .ok (.aload_n 0, 1) := by decide +kernel
theorem dX11_worthOf_117 : decode cX11_worthOf 117 = .ok (.iconst 4, 1) := by decide +kernel
theorem dX11_worthOf_118 : decode cX11_worthOf 118 = .ok (.bipush 6, 2) := by decide +kernel
theorem dX11_worthOf_120 : decode cX11_worthOf 120 = .ok (.invokevirtual 51, 3) := by decide +kernel
theorem dX11_worthOf_123 : decode cX11_worthOf 123 = .ok (.aload_n 0, 1) := by decide +kernel
theorem dX11_worthOf_124 : decode cX11_worthOf 124 = .ok (.aload_n 0, 1) := by decide +kernel
theorem dX11_worthOf_125 : decode cX11_worthOf 125 = .ok (.getfield 25, 3) := by decide +kernel
theorem dX11_worthOf_128 : decode cX11_worthOf 128 = .ok (.iload_n 1, 1) := by decide +kernel
theorem dX11_worthOf_129 : decode cX11_worthOf 129 = .ok (.iaload, 1) := by decide +kernel
theorem dX11_worthOf_130 : decode cX11_worthOf 130 = .ok (.ifCond .ne 7, 3) := by decide +kernel
theorem dX11_worthOf_133 : decode cX11_worthOf 133 = .ok (.iconst 1, 1) := by decide +kernel
theorem dX11_worthOf_134 : decode cX11_worthOf 134 = .ok (.goto 4, 3) := by decide +kernel
theorem dX11_worthOf_137 : decode cX11_worthOf 137 = .ok (.iconst 0, 1) := by decide +kernel
theorem dX11_worthOf_138 : decode cX11_worthOf 138 = .ok (.putfield 85, 3) := by decide +kernel
theorem dX11_worthOf_141 : decode cX11_worthOf 141 = .ok (.aload_n 0, 1) := by decide +kernel
theorem dX11_worthOf_142 : decode cX11_worthOf 142 = .ok (.dup, 1) := by decide +kernel
theorem dX11_worthOf_143 : decode cX11_worthOf 143 = .ok (.getfield 92, 3) := by decide +kernel
theorem dX11_worthOf_146 : decode cX11_worthOf 146 = .ok (.aload_n 0, 1) := by decide +kernel
theorem dX11_worthOf_147 : decode cX11_worthOf 147 = .ok (.getfield 85, 3) := by decide +kernel
theorem dX11_worthOf_150 : decode cX11_worthOf 150 = .ok (.ifCond .eq 7, 3) := by decide +kernel
theorem dX11_worthOf_153 : decode cX11_worthOf 153 = .ok (.iconst 1, 1) := by decide +kernel
theorem dX11_worthOf_154 : decode cX11_worthOf 154 = .ok (.goto 4, 3) := by decide +kernel
theorem dX11_worthOf_157 : decode cX11_worthOf 157 = .ok (.iconst 0, 1) := by decide +kernel
theorem dX11_worthOf_158 : decode cX11_worthOf 158 = .ok (.iadd, 1) := by decide +kernel
theorem dX11_worthOf_159 : decode cX11_worthOf 159 = .ok (.putfield 92, 3) := by decide +kernel
theorem dX11_worthOf_162 : decode cX11_worthOf 162 = .ok (.aload_n 0, 1) := by decide +kernel
theorem dX11_worthOf_163 : decode cX11_worthOf 163 = .ok (.getfield 85, 3) := by decide +kernel
theorem dX11_worthOf_166 : decode cX11_worthOf 166 = .ok (.ifCond .eq 7, 3) := by decide +kernel
theorem dX11_worthOf_169 : decode cX11_worthOf 169 = .ok (.iconst 0, 1) := by decide +kernel
theorem dX11_worthOf_170 : decode cX11_worthOf 170 = .ok (.goto 13, 3) := by decide +kernel
theorem dX11_worthOf_173 : decode cX11_worthOf 173 = .ok (.sipush 1000, 3) := by decide +kernel
theorem dX11_worthOf_176 : decode cX11_worthOf 176 = .ok (.aload_n 0, 1) := by decide +kernel
theorem dX11_worthOf_177 : decode cX11_worthOf 177 = .ok (.getfield 25, 3) := by decide +kernel
theorem dX11_worthOf_180 : decode cX11_worthOf 180 = .ok (.iload_n 1, 1) := by decide +kernel
theorem dX11_worthOf_181 : decode cX11_worthOf 181 = .ok (.iaload, 1) := by decide +kernel
theorem dX11_worthOf_182 : decode cX11_worthOf 182 = .ok (.idiv, 1) := by decide +kernel
theorem dX11_worthOf_183 : decode cX11_worthOf 183 = .ok (.ireturn, 1) := by decide +kernel
theorem dX11_worthOf_184 : decode cX11_worthOf 184 = .ok (.aload_n 0, 1) := by decide +kernel
theorem dX11_worthOf_185 : decode cX11_worthOf 185 = .ok (.iload_n 1, 1) := by decide +kernel
theorem dX11_worthOf_186 : decode cX11_worthOf 186 = .ok (.invokevirtual 88, 3) := by decide +kernel
theorem dX11_worthOf_189 : decode cX11_worthOf 189 = .ok (.ireturn, 1) := by decide +kernel
theorem dX11_isSold_0 : decode cX11_isSold 0 = .ok (.aload_n 0, 1) := by decide +kernel
theorem dX11_isSold_1 : decode cX11_isSold 1 = .ok (.getfield 7, 3) := by decide +kernel
theorem dX11_isSold_4 : decode cX11_isSold 4 = .ok (.iload_n 1, 1) := by decide +kernel
theorem dX11_isSold_5 : decode cX11_isSold 5 = .ok (.iaload, 1) := by decide +kernel
theorem dX11_isSold_6 : decode cX11_isSold 6 = .ok (.iconst 4, 1) := by decide +kernel
theorem dX11_isSold_7 : decode cX11_isSold 7 = .ok (.bipush 7, 2) := by decide +kernel
theorem dX11_isSold_9 : decode cX11_isSold 9 = .ok (.invokestatic 44, 3) := by decide +kernel
theorem dX11_isSold_12 : decode cX11_isSold 12 = .ok (.ireturn, 1) := by decide +kernel
theorem dX11_costOf_0 : decode cX11_costOf 0 = .ok (.aload_n 0, 1) := by decide +kernel
theorem dX11_costOf_1 : decode cX11_costOf 1 = .ok (.iload_n 1, 1) := by decide +kernel
theorem dX11_costOf_2 : decode cX11_costOf 2 = .ok (.invokevirtual 95, 3) := by decide +kernel
theorem dX11_costOf_5 : decode cX11_costOf 5 = .ok (.istore_n 2, 1) := by decide +kernel
theorem dX11_costOf_6 : decode cX11_costOf 6 = .ok (.aload_n 0, 1) := by decide +kernel
theorem dX11_costOf_7 : decode cX11_costOf 7 = .ok (.getfield 7, 3) := by decide +kernel
theorem dX11_costOf_10 : decode cX11_costOf 10 = .ok (.iload_n 1, 1) := by decide +kernel
theorem dX11_costOf_11 : decode cX11_costOf 11 = .ok (.iaload, 1) := by decide +kernel
theorem dX11_costOf_12 : decode cX11_costOf 12 = .ok (.iconst 5, 1) := by decide +kernel
theorem dX11_costOf_13 : decode cX11_costOf 13 = .ok (.if_icmp .ne 10, 3) := by decide +kernel
theorem dX11_costOf_16 : decode cX11_costOf 16 = .ok (.iload_n 2, 1) := by decide +kernel
theorem dX11_costOf_17 : decode cX11_costOf 17 = .ok (.bipush 7, 2) := by decide +kernel
theorem dX11_costOf_19 : decode cX11_costOf 19 = .ok (.iadd, 1) := by decide +kernel
theorem dX11_costOf_20 : decode cX11_costOf 20 = .ok (.goto 9, 3) := by decide +kernel
theorem dX11_costOf_23 : decode cX11_costOf 23 = .ok (.iload_n 2, 1) := by decide +kernel
theorem dX11_costOf_24 : decode cX11_costOf 24 = .ok (.iload_n 2, 1) := by decide +kernel
theorem dX11_costOf_25 : decode cX11_costOf 25 = .ok (.bipush 10, 2) := by decide +kernel
theorem dX11_costOf_27 : decode cX11_costOf 27 = .ok (.idiv, 1) := by decide +kernel
theorem dX11_costOf_28 : decode cX11_costOf 28 = .ok (.iadd, 1) := by decide +kernel
theorem dX11_costOf_29 : decode cX11_costOf 29 = .ok (.ireturn, 1) := by decide +kernel
theorem dX11_loaf_0 : decode cX11_loaf 0 = .ok (.aload_n 0, 1) := by decide +kernel
theorem dX11_loaf_1 : decode cX11_loaf 1 = .ok (.iconst 0, 1) := by decide +kernel
theorem dX11_loaf_2 : decode cX11_loaf 2 = .ok (.putfield 37, 3) := by decide +kernel
theorem dX11_loaf_5 : decode cX11_loaf 5 = .ok (.iload_n 1, 1) := by decide +kernel
theorem dX11_loaf_6 : decode cX11_loaf 6 = .ok (.iconst 0, 1) := by decide +kernel
theorem dX11_loaf_7 : decode cX11_loaf 7 = .ok (.bipush 7, 2) := by decide +kernel
theorem dX11_loaf_9 : decode cX11_loaf 9 = .ok (.invokestatic 44, 3) := by decide +kernel
theorem dX11_loaf_12 : decode cX11_loaf 12 = .ok (.ifCond .eq 14, 3) := by decide +kernel
theorem dX11_loaf_15 : decode cX11_loaf 15 = .ok (.iload_n 2, 1) := by decide +kernel
theorem dX11_loaf_16 : decode cX11_loaf 16 = .ok (.iconst 1, 1) := by decide +kernel
theorem dX11_loaf_17 : decode cX11_loaf 17 = .ok (.sipush 2000, 3) := by decide +kernel
theorem dX11_loaf_20 : decode cX11_loaf 20 = .ok (.invokestatic 44, 3) := by decide +kernel
theorem dX11_loaf_23 : decode cX11_loaf 23 = .ok (.ifCond .ne 6, 3) := by decide +kernel
theorem dX11_loaf_26 : decode cX11_loaf 26 = .ok (.bipush (-102), 2) := by decide +kernel
theorem dX11_loaf_28 : decode cX11_loaf 28 = .ok (.ireturn, 1) := by decide +kernel
theorem dX11_loaf_29 : decode cX11_loaf 29 = .ok (.aload_n 0, 1) := by decide +kernel
theorem dX11_loaf_30 : decode cX11_loaf 30 = .ok (.getfield 41, 3) := by decide +kernel
theorem dX11_loaf_33 : decode cX11_loaf 33 = .ok (.bipush 20, 2) := by decide +kernel
theorem dX11_loaf_35 : decode cX11_loaf 35 = .ok (.if_icmp .ne 6, 3) := by decide +kernel
theorem dX11_loaf_38 : decode cX11_loaf 38 = .ok (.bipush (-104), 2) := by decide +kernel
theorem dX11_loaf_40 : decode cX11_loaf 40 = .ok (.ireturn, 1) := by decide +kernel
theorem dX11_loaf_41 : decode cX11_loaf 41 = .ok (.aload_n 0, 1) := by decide +kernel
theorem dX11_loaf_42 : decode cX11_loaf 42 = .ok (.getfield 7, 3) := by decide +kernel
theorem dX11_loaf_45 : decode cX11_loaf 45 = .ok (.aload_n 0, 1) := by decide +kernel
theorem dX11_loaf_46 : decode cX11_loaf 46 = .ok (.getfield 41, 3) := by decide +kernel
theorem dX11_loaf_49 : decode cX11_loaf 49 = .ok (.iload_n 1, 1) := by decide +kernel
theorem dX11_loaf_50 : decode cX11_loaf 50 = .ok (.iastore, 1) := by decide +kernel
theorem dX11_loaf_51 : decode cX11_loaf 51 = .ok (.aload_n 0, 1) := by decide +kernel
theorem dX11_loaf_52 : decode cX11_loaf 52 = .ok (.getfield 13, 3) := by decide +kernel
theorem dX11_loaf_55 : decode cX11_loaf 55 = .ok (.aload_n 0, 1) := by decide +kernel
theorem dX11_loaf_56 : decode cX11_loaf 56 = .ok (.getfield 41, 3) := by decide +kernel
theorem dX11_loaf_59 : decode cX11_loaf 59 = .ok (.iload_n 2, 1) := by decide +kernel
theorem dX11_loaf_60 : decode cX11_loaf 60 = .ok (.iastore, 1) := by decide +kernel
theorem dX11_loaf_61 : decode cX11_loaf 61 = .ok (.aload_n 0, 1) := by decide +kernel
theorem dX11_loaf_62 : decode cX11_loaf 62 = .ok (.dup, 1) := by decide +kernel
theorem dX11_loaf_63 : decode cX11_loaf 63 = .ok (.getfield 41, 3) := by decide +kernel
theorem dX11_loaf_66 : decode cX11_loaf 66 = .ok (.iconst 1, 1) := by decide +kernel
theorem dX11_loaf_67 : decode cX11_loaf 67 = .ok (.iadd, 1) := by decide +kernel
theorem dX11_loaf_68 : decode cX11_loaf 68 = .ok (.putfield 41, 3) := by decide +kernel
theorem dX11_loaf_71 : decode cX11_loaf 71 = .ok (.aload_n 0, 1) := by decide +kernel
theorem dX11_loaf_72 : decode cX11_loaf 72 = .ok (.getfield 41, 3) := by decide +kernel
theorem dX11_loaf_75 : decode cX11_loaf 75 = .ok (.iconst 1, 1) := by decide +kernel
theorem dX11_loaf_76 : decode cX11_loaf 76 = .ok (.isub, 1) := by decide +kernel
theorem dX11_loaf_77 : decode cX11_loaf 77 = .ok (.ireturn, 1) := by decide +kernel
theorem dX11_shelf_0 : decode cX11_shelf 0 = .ok (.aload_n 0, 1) := by decide +kernel
theorem dX11_shelf_1 : decode cX11_shelf 1 = .ok (.iconst 0, 1) := by decide +kernel
theorem dX11_shelf_2 : decode cX11_shelf 2 = .ok (.putfield 37, 3) := by decide +kernel
theorem dX11_shelf_5 : decode cX11_shelf 5 = .ok (.iload_n 1, 1) := by decide +kernel
theorem dX11_shelf_6 : decode cX11_shelf 6 = .ok (.invokestatic 98, 3) := by decide +kernel
theorem dX11_shelf_9 : decode cX11_shelf 9 = .ok (.ifCond .eq 9, 3) := by decide +kernel
theorem dX11_shelf_12 : decode cX11_shelf 12 = .ok (.iload_n 2, 1) := by decide +kernel
theorem dX11_shelf_13 : decode cX11_shelf 13 = .ok (.bipush 8, 2) := by decide +kernel
theorem dX11_shelf_15 : decode cX11_shelf 15 = .ok (.if_icmp .le 6, 3) := by decide +kernel
theorem dX11_shelf_18 : decode cX11_shelf 18 = .ok (.bipush (-102), 2) := by decide +kernel
theorem dX11_shelf_20 : decode cX11_shelf 20 = .ok (.ireturn, 1) := by decide +kernel
theorem dX11_shelf_21 : decode cX11_shelf 21 = .ok (.iload_n 2, 1) := by decide +kernel
theorem dX11_shelf_22 : decode cX11_shelf 22 = .ok (.ifCond .ge 10, 3) := by decide +kernel
theorem dX11_shelf_25 : decode cX11_shelf 25 = .ok (.aload_n 0, 1) := by decide +kernel
theorem dX11_shelf_26 : decode cX11_shelf 26 = .ok (.iconst 1, 1) := by decide +kernel
theorem dX11_shelf_27 : decode cX11_shelf 27 = .ok (.putfield 37, 3) := by decide +kernel
theorem dX11_shelf_30 : decode cX11_shelf 30 = .ok (.iconst 0, 1) := by decide +kernel
theorem dX11_shelf_31 : decode cX11_shelf 31 = .ok (.ireturn, 1) := by decide +kernel
theorem dX11_shelf_32 : decode cX11_shelf 32 = .ok (.aload_n 0, 1) := by decide +kernel
theorem dX11_shelf_33 : decode cX11_shelf 33 = .ok (.getfield 28, 3) := by decide +kernel
theorem dX11_shelf_36 : decode cX11_shelf 36 = .ok (.iload_n 1, 1) := by decide +kernel
theorem dX11_shelf_37 : decode cX11_shelf 37 = .ok (.iload_n 2, 1) := by decide +kernel
theorem dX11_shelf_38 : decode cX11_shelf 38 = .ok (.iastore, 1) := by decide +kernel
theorem dX11_shelf_39 : decode cX11_shelf 39 = .ok (.iconst 0, 1) := by decide +kernel
theorem dX11_shelf_40 : decode cX11_shelf 40 = .ok (.istore_n 3, 1) := by decide +kernel
theorem dX11_shelf_41 : decode cX11_shelf 41 = .ok (.iload_n 3, 1) := by decide +kernel
theorem dX11_shelf_42 : decode cX11_shelf 42 = .ok (.bipush 8, 2) := by decide +kernel
theorem dX11_shelf_44 : decode cX11_shelf 44 = .ok (.if_icmp .ge 21, 3) := by decide +kernel
theorem dX11_shelf_47 : decode cX11_shelf 47 = .ok (.aload_n 0, 1) := by decide +kernel
theorem dX11_shelf_48 : decode cX11_shelf 48 = .ok (.getfield 31, 3) := by decide +kernel
theorem dX11_shelf_51 : decode cX11_shelf 51 = .ok (.bipush 8, 2) := by decide +kernel
theorem dX11_shelf_53 : decode cX11_shelf 53 = .ok (.iload_n 1, 1) := by decide +kernel
theorem dX11_shelf_54 : decode cX11_shelf 54 = .ok (.imul, 1) := by decide +kernel
theorem dX11_shelf_55 : decode cX11_shelf 55 = .ok (.iload_n 3, 1) := by decide +kernel
theorem dX11_shelf_56 : decode cX11_shelf 56 = .ok (.iadd, 1) := by decide +kernel
theorem dX11_shelf_57 : decode cX11_shelf 57 = .ok (.iconst (-1), 1) := by decide +kernel
theorem dX11_shelf_58 : decode cX11_shelf 58 = .ok (.iastore, 1) := by decide +kernel
theorem dX11_shelf_59 : decode cX11_shelf 59 = .ok (.iinc 3 1, 3) := by decide +kernel
theorem dX11_shelf_62 : decode cX11_shelf 62 = .ok (.goto (-21), 3) := by decide +kernel
theorem dX11_shelf_65 : decode cX11_shelf 65 = .ok (.iload_n 2, 1) := by decide +kernel
theorem dX11_shelf_66 : decode cX11_shelf 66 = .ok (.ireturn, 1) := by decide +kernel
theorem dX11_out_0 : decode cX11_out 0 = .ok (.aload_n 0, 1) := by decide +kernel
theorem dX11_out_1 : decode cX11_out 1 = .ok (.iconst 0, 1) := by decide +kernel
theorem dX11_out_2 : decode cX11_out 2 = .ok (.putfield 37, 3) := by decide +kernel
theorem dX11_out_5 : decode cX11_out 5 = .ok (.iload_n 1, 1) := by decide +kernel
theorem dX11_out_6 : decode cX11_out 6 = .ok (.invokestatic 98, 3) := by decide +kernel
theorem dX11_out_9 : decode cX11_out 9 = .ok (.ifCond .ne 6, 3) := by decide +kernel
theorem dX11_out_12 : decode cX11_out 12 = .ok (.bipush (-102), 2) := by decide +kernel
theorem dX11_out_14 : decode cX11_out 14 = .ok (.ireturn, 1) := by decide +kernel
theorem dX11_out_15 : decode cX11_out 15 = .ok (.aload_n 0, 1) := by decide +kernel
theorem dX11_out_16 : decode cX11_out 16 = .ok (.getfield 28, 3) := by decide +kernel
theorem dX11_out_19 : decode cX11_out 19 = .ok (.iload_n 1, 1) := by decide +kernel
theorem dX11_out_20 : decode cX11_out 20 = .ok (.iaload, 1) := by decide +kernel
theorem dX11_out_21 : decode cX11_out 21 = .ok (.iconst (-1), 1) := by decide +kernel
theorem dX11_out_22 : decode cX11_out 22 = .ok (.if_icmp .ne 7, 3) := by decide +kernel
theorem dX11_out_25 : decode cX11_out 25 = .ok (.iconst 1, 1) := by decide +kernel
theorem dX11_out_26 : decode cX11_out 26 = .ok (.goto 4, 3) := by decide +kernel
theorem dX11_out_29 : decode cX11_out 29 = .ok (.iconst 0, 1) := by decide +kernel
theorem dX11_out_30 : decode cX11_out 30 = .ok (.istore_n 2, 1) := by decide +kernel
theorem dX11_out_31 : decode cX11_out 31 = .ok (.aload_n 0, 1) := by decide +kernel
theorem dX11_out_32 : decode cX11_out 32 = .ok (.getfield 28, 3) := by decide +kernel
theorem dX11_out_35 : decode cX11_out 35 = .ok (.iload_n 1, 1) := by decide +kernel
theorem dX11_out_36 : decode cX11_out 36 = .ok (.iconst (-1), 1) := by decide +kernel
theorem dX11_out_37 : decode cX11_out 37 = .ok (.iastore, 1) := by decide +kernel
theorem dX11_out_38 : decode cX11_out 38 = .ok (.iload_n 2, 1) := by decide +kernel
theorem dX11_out_39 : decode cX11_out 39 = .ok (.ifCond .eq 7, 3) := by decide +kernel
theorem dX11_out_42 : decode cX11_out 42 = .ok (.iconst 0, 1) := by decide +kernel
theorem dX11_out_43 : decode cX11_out 43 = .ok (.goto 4, 3) := by decide +kernel
theorem dX11_out_46 : decode cX11_out 46 = .ok (.iconst 1, 1) := by decide +kernel
theorem dX11_out_47 : decode cX11_out 47 = .ok (.ireturn, 1) := by decide +kernel
theorem dX11_rest_0 : decode cX11_rest 0 = .ok (.aload_n 0, 1) := by decide +kernel
theorem dX11_rest_1 : decode cX11_rest 1 = .ok (.iconst 0, 1) := by decide +kernel
theorem dX11_rest_2 : decode cX11_rest 2 = .ok (.putfield 37, 3) := by decide +kernel
theorem dX11_rest_5 : decode cX11_rest 5 = .ok (.aload_n 0, 1) := by decide +kernel
theorem dX11_rest_6 : decode cX11_rest 6 = .ok (.iload_n 1, 1) := by decide +kernel
theorem dX11_rest_7 : decode cX11_rest 7 = .ok (.invokevirtual 102, 3) := by decide +kernel
theorem dX11_rest_10 : decode cX11_rest 10 = .ok (.ifCond .ne 6, 3) := by decide +kernel
theorem dX11_rest_13 : decode cX11_rest 13 = .ok (.bipush (-101), 2) := by decide +kernel
theorem dX11_rest_15 : decode cX11_rest 15 = .ok (.ireturn, 1) := by decide +kernel
theorem dX11_rest_16 : decode cX11_rest 16 = .ok (.iload_n 2, 1) := by decide +kernel
theorem dX11_rest_17 : decode cX11_rest 17 = .ok (.iconst 0, 1) := by decide +kernel
theorem dX11_rest_18 : decode cX11_rest 18 = .ok (.sipush 600, 3) := by decide +kernel
theorem dX11_rest_21 : decode cX11_rest 21 = .ok (.invokestatic 44, 3) := by decide +kernel
theorem dX11_rest_24 : decode cX11_rest 24 = .ok (.ifCond .ne 6, 3) := by decide +kernel
theorem dX11_rest_27 : decode cX11_rest 27 = .ok (.bipush (-102), 2) := by decide +kernel
theorem dX11_rest_29 : decode cX11_rest 29 = .ok (.ireturn, 1) := by decide +kernel
theorem dX11_rest_30 : decode cX11_rest 30 = .ok (.aload_n 0, 1) := by decide +kernel
theorem dX11_rest_31 : decode cX11_rest 31 = .ok (.iload_n 1, 1) := by decide +kernel
theorem dX11_rest_32 : decode cX11_rest 32 = .ok (.iload_n 2, 1) := by decide +kernel
theorem dX11_rest_33 : decode cX11_rest 33 = .ok (.invokevirtual 105, 3) := by decide +kernel
theorem dX11_rest_36 : decode cX11_rest 36 = .ok (.istore_n 3, 1) := by decide +kernel
theorem dX11_rest_37 : decode cX11_rest 37 = .ok (.aload_n 0, 1) := by decide +kernel
theorem dX11_rest_38 : decode cX11_rest 38 = .ok (.aload_n 0, 1) := by decide +kernel
theorem dX11_rest_39 : decode cX11_rest 39 = .ok (.getfield 61, 3) := by decide +kernel
theorem dX11_rest_42 : decode cX11_rest 42 = .ok (.ifCond .eq 7, 3) := by decide +kernel
theorem dX11_rest_45 : decode cX11_rest 45 = .ok (.iconst 1, 1) := by decide +kernel
theorem dX11_rest_46 : decode cX11_rest 46 = .ok (.goto 4, 3) := by decide +kernel
theorem dX11_rest_49 : decode cX11_rest 49 = .ok (.iconst 0, 1) := by decide +kernel
theorem dX11_rest_50 : decode cX11_rest 50 = .ok (.putfield 37, 3) := by decide +kernel
theorem dX11_rest_53 : decode cX11_rest 53 = .ok (.aload_n 0, 1) := by decide +kernel
theorem dX11_rest_54 : decode cX11_rest 54 = .ok (.getfield 61, 3) := by decide +kernel
theorem dX11_rest_57 : decode cX11_rest 57 = .ok (.ifCond .eq 7, 3) := by decide +kernel
theorem dX11_rest_60 : decode cX11_rest 60 = .ok (.iconst 0, 1) := by decide +kernel
theorem dX11_rest_61 : decode cX11_rest 61 = .ok (.goto 4, 3) := by decide +kernel
theorem dX11_rest_64 : decode cX11_rest 64 = .ok (.iload_n 3, 1) := by decide +kernel
theorem dX11_rest_65 : decode cX11_rest 65 = .ok (.ireturn, 1) := by decide +kernel
theorem dX11_fold_0 : decode cX11_fold 0 = .ok (.aload_n 0, 1) := by decide +kernel
theorem dX11_fold_1 : decode cX11_fold 1 = .ok (.iconst 0, 1) := by decide +kernel
theorem dX11_fold_2 : decode cX11_fold 2 = .ok (.putfield 37, 3) := by decide +kernel
theorem dX11_fold_5 : decode cX11_fold 5 = .ok (.aload_n 0, 1) := by decide +kernel
theorem dX11_fold_6 : decode cX11_fold 6 = .ok (.iload_n 1, 1) := by decide +kernel
theorem dX11_fold_7 : decode cX11_fold 7 = .ok (.invokevirtual 102, 3) := by decide +kernel
theorem dX11_fold_10 : decode cX11_fold 10 = .ok (.ifCond .ne 6, 3) := by decide +kernel
theorem dX11_fold_13 : decode cX11_fold 13 = .ok (.bipush (-101), 2) := by decide +kernel
theorem dX11_fold_15 : decode cX11_fold 15 = .ok (.ireturn, 1) := by decide +kernel
theorem dX11_fold_16 : decode cX11_fold 16 = .ok (.aload_n 0, 1) := by decide +kernel
theorem dX11_fold_17 : decode cX11_fold 17 = .ok (.iload_n 1, 1) := by decide +kernel
theorem dX11_fold_18 : decode cX11_fold 18 = .ok (.invokevirtual 79, 3) := by decide +kernel
theorem dX11_fold_21 : decode cX11_fold 21 = .ok (.aload_n 0, 1) := by decide +kernel
theorem dX11_fold_22 : decode cX11_fold 22 = .ok (.getfield 19, 3) := by decide +kernel
theorem dX11_fold_25 : decode cX11_fold 25 = .ok (.iload_n 1, 1) := by decide +kernel
theorem dX11_fold_26 : decode cX11_fold 26 = .ok (.iaload, 1) := by decide +kernel
theorem dX11_fold_27 : decode cX11_fold 27 = .ok (.ireturn, 1) := by decide +kernel
theorem dX11_lay_0 : decode cX11_lay 0 = .ok (.aload_n 0, 1) := by decide +kernel
theorem dX11_lay_1 : decode cX11_lay 1 = .ok (.iconst 0, 1) := by decide +kernel
theorem dX11_lay_2 : decode cX11_lay 2 = .ok (.putfield 37, 3) := by decide +kernel
theorem dX11_lay_5 : decode cX11_lay 5 = .ok (.aload_n 0, 1) := by decide +kernel
theorem dX11_lay_6 : decode cX11_lay 6 = .ok (.iload_n 1, 1) := by decide +kernel
theorem dX11_lay_7 : decode cX11_lay 7 = .ok (.invokevirtual 102, 3) := by decide +kernel
theorem dX11_lay_10 : decode cX11_lay 10 = .ok (.ifCond .ne 6, 3) := by decide +kernel
theorem dX11_lay_13 : decode cX11_lay 13 = .ok (.bipush (-101), 2) := by decide +kernel
theorem dX11_lay_15 : decode cX11_lay 15 = .ok (.ireturn, 1) := by decide +kernel
theorem dX11_lay_16 : decode cX11_lay 16 = .ok (.iload_n 2, 1) := by decide +kernel
theorem dX11_lay_17 : decode cX11_lay 17 = .ok (.invokestatic 98, 3) := by decide +kernel
theorem dX11_lay_20 : decode cX11_lay 20 = .ok (.ifCond .ne 6, 3) := by decide +kernel
theorem dX11_lay_23 : decode cX11_lay 23 = .ok (.bipush (-102), 2) := by decide +kernel
theorem dX11_lay_25 : decode cX11_lay 25 = .ok (.ireturn, 1) := by decide +kernel
theorem dX11_lay_26 : decode cX11_lay 26 = .ok (.aload_n 0, 1) := by decide +kernel
theorem dX11_lay_27 : decode cX11_lay 27 = .ok (.iload_n 1, 1) := by decide +kernel
theorem dX11_lay_28 : decode cX11_lay 28 = .ok (.iload_n 2, 1) := by decide +kernel
theorem dX11_lay_29 : decode cX11_lay 29 = .ok (.iload_n 3, 1) := by decide +kernel
theorem dX11_lay_30 : decode cX11_lay 30 = .ok (.invokevirtual 109, 3) := by decide +kernel
theorem dX11_lay_33 : decode cX11_lay 33 = .ok (.istore 4, 2) := by decide +kernel
theorem dX11_lay_35 : decode cX11_lay 35 = .ok (.iload 4, 2) := by decide +kernel
theorem dX11_lay_37 : decode cX11_lay 37 = .ok (.ifCond .le 21, 3) := by decide +kernel
theorem dX11_lay_40 : decode cX11_lay 40 = .ok (.aload_n 0, 1) := by decide +kernel
theorem dX11_lay_41 : decode cX11_lay 41 = .ok (.dup, 1) := by decide +kernel
theorem dX11_lay_42 : decode cX11_lay 42 = .ok (.getfield 112, 3) := by decide +kernel
theorem dX11_lay_45 : decode cX11_lay 45 = .ok (.iconst 1, 1) := by decide +kernel
theorem dX11_lay_46 : decode cX11_lay 46 = .ok (.iadd, 1) := by decide +kernel
theorem dX11_lay_47 : decode cX11_lay 47 = .ok (.putfield 112, 3) := by decide +kernel
theorem dX11_lay_50 : decode cX11_lay 50 = .ok (.aload_n 0, 1) := by decide +kernel
theorem dX11_lay_51 : decode cX11_lay 51 = .ok (.iload 4, 2) := by decide +kernel
theorem dX11_lay_53 : decode cX11_lay 53 = .ok (.putfield 37, 3) := by decide +kernel
theorem dX11_lay_56 : decode cX11_lay 56 = .ok (.iconst 0, 1) := by decide +kernel
theorem dX11_lay_57 : decode cX11_lay 57 = .ok (.ireturn, 1) := by decide +kernel
theorem dX11_lay_58 : decode cX11_lay 58 = .ok (.iconst 0, 1) := by decide +kernel
theorem dX11_lay_59 : decode cX11_lay 59 = .ok (.istore 5, 2) := by decide +kernel
theorem dX11_lay_61 : decode cX11_lay 61 = .ok (.iconst 0, 1) := by decide +kernel
theorem dX11_lay_62 : decode cX11_lay 62 = .ok (.istore 6, 2) := by decide +kernel
theorem dX11_lay_64 : decode cX11_lay 64 = .ok (.iload 6, 2) := by decide +kernel
theorem dX11_lay_66 : decode cX11_lay 66 = .ok (.iconst 4, 1) := by decide +kernel
theorem dX11_lay_67 : decode cX11_lay 67 = .ok (.if_icmp .ge 57, 3) := by decide +kernel
theorem dX11_lay_70 : decode cX11_lay 70 = .ok (.iconst 0, 1) := by decide +kernel
theorem dX11_lay_71 : decode cX11_lay 71 = .ok (.istore 7, 2) := by decide +kernel
theorem dX11_lay_73 : decode cX11_lay 73 = .ok (.iload 7, 2) := by decide +kernel
theorem dX11_lay_75 : decode cX11_lay 75 = .ok (.aload_n 0, 1) := by decide +kernel
theorem dX11_lay_76 : decode cX11_lay 76 = .ok (.getfield 28, 3) := by decide +kernel
theorem dX11_lay_79 : decode cX11_lay 79 = .ok (.iload 6, 2) := by decide +kernel
theorem dX11_lay_81 : decode cX11_lay 81 = .ok (.iaload, 1) := by decide +kernel
theorem dX11_lay_82 : decode cX11_lay 82 = .ok (.if_icmp .ge 36, 3) := by decide +kernel
theorem dX11_lay_85 : decode cX11_lay 85 = .ok (.iload 5, 2) := by decide +kernel
theorem dX11_lay_87 : decode cX11_lay 87 = .ok (.aload_n 0, 1) := by decide +kernel
theorem dX11_lay_88 : decode cX11_lay 88 = .ok (.getfield 31, 3) := by decide +kernel
theorem dX11_lay_91 : decode cX11_lay 91 = .ok (.bipush 8, 2) := by decide +kernel
theorem dX11_lay_93 : decode cX11_lay 93 = .ok (.iload 6, 2) := by decide +kernel
theorem dX11_lay_95 : decode cX11_lay 95 = .ok (.imul, 1) := by decide +kernel
theorem dX11_lay_96 : decode cX11_lay 96 = .ok (.iload 7, 2) := by decide +kernel
theorem dX11_lay_98 : decode cX11_lay 98 = .ok (.iadd, 1) := by decide +kernel
theorem dX11_lay_99 : decode cX11_lay 99 = .ok (.iaload, 1) := by decide +kernel
theorem dX11_lay_100 : decode cX11_lay 100 = .ok (.iload_n 1, 1) := by decide +kernel
theorem dX11_lay_101 : decode cX11_lay 101 = .ok (.if_icmp .ne 7, 3) := by decide +kernel
theorem dX11_lay_104 : decode cX11_lay 104 = .ok (.iconst 1, 1) := by decide +kernel
theorem dX11_lay_105 : decode cX11_lay 105 = .ok (.goto 4, 3) := by decide +kernel
theorem dX11_lay_108 : decode cX11_lay 108 = .ok (.iconst 0, 1) := by decide +kernel
theorem dX11_lay_109 : decode cX11_lay 109 = .ok (.iadd, 1) := by decide +kernel
theorem dX11_lay_110 : decode cX11_lay 110 = .ok (.istore 5, 2) := by decide +kernel
theorem dX11_lay_112 : decode cX11_lay 112 = .ok (.iinc 7 1, 3) := by decide +kernel
theorem dX11_lay_115 : decode cX11_lay 115 = .ok (.goto (-42), 3) := by decide +kernel
theorem dX11_lay_118 : decode cX11_lay 118 = .ok (.iinc 6 1, 3) := by decide +kernel
theorem dX11_lay_121 : decode cX11_lay 121 = .ok (.goto (-57), 3) := by decide +kernel
theorem dX11_lay_124 : decode cX11_lay 124 = .ok (.iload 5, 2) := by decide +kernel
theorem dX11_lay_126 : decode cX11_lay 126 = .ok (.ireturn, 1) := by decide +kernel
theorem dX11_bake_0 : decode cX11_bake 0 = .ok (.aload_n 0, 1) := by decide +kernel
theorem dX11_bake_1 : decode cX11_bake 1 = .ok (.iconst 0, 1) := by decide +kernel
theorem dX11_bake_2 : decode cX11_bake 2 = .ok (.putfield 37, 3) := by decide +kernel
theorem dX11_bake_5 : decode cX11_bake 5 = .ok (.aload_n 0, 1) := by decide +kernel
theorem dX11_bake_6 : decode cX11_bake 6 = .ok (.iload_n 1, 1) := by decide +kernel
theorem dX11_bake_7 : decode cX11_bake 7 = .ok (.invokevirtual 102, 3) := by decide +kernel
theorem dX11_bake_10 : decode cX11_bake 10 = .ok (.ifCond .ne 6, 3) := by decide +kernel
theorem dX11_bake_13 : decode cX11_bake 13 = .ok (.bipush (-101), 2) := by decide +kernel
theorem dX11_bake_15 : decode cX11_bake 15 = .ok (.ireturn, 1) := by decide +kernel
theorem dX11_bake_16 : decode cX11_bake 16 = .ok (.iload_n 2, 1) := by decide +kernel
theorem dX11_bake_17 : decode cX11_bake 17 = .ok (.iconst 0, 1) := by decide +kernel
theorem dX11_bake_18 : decode cX11_bake 18 = .ok (.sipush 400, 3) := by decide +kernel
theorem dX11_bake_21 : decode cX11_bake 21 = .ok (.invokestatic 44, 3) := by decide +kernel
theorem dX11_bake_24 : decode cX11_bake 24 = .ok (.ifCond .ne 8, 3) := by decide +kernel
theorem dX11_bake_27 : decode cX11_bake 27 = .ok (.bipush (-102), 2) := by decide +kernel
theorem dX11_bake_29 : decode cX11_bake 29 = .ok (.goto 17, 3) := by decide +kernel
theorem dX11_bake_32 : decode cX11_bake 32 = .ok (.aload_n 0, 1) := by decide +kernel
theorem dX11_bake_33 : decode cX11_bake 33 = .ok (.iload_n 1, 1) := by decide +kernel
theorem dX11_bake_34 : decode cX11_bake 34 = .ok (.iload_n 2, 1) := by decide +kernel
theorem dX11_bake_35 : decode cX11_bake 35 = .ok (.invokevirtual 115, 3) := by decide +kernel
theorem dX11_bake_38 : decode cX11_bake 38 = .ok (.ifCond .eq 7, 3) := by decide +kernel
theorem dX11_bake_41 : decode cX11_bake 41 = .ok (.iconst 1, 1) := by decide +kernel
theorem dX11_bake_42 : decode cX11_bake 42 = .ok (.goto 4, 3) := by decide +kernel
theorem dX11_bake_45 : decode cX11_bake 45 = .ok (.iconst 0, 1) := by decide +kernel
theorem dX11_bake_46 : decode cX11_bake 46 = .ok (.ireturn, 1) := by decide +kernel
theorem dX11_worth_0 : decode cX11_worth 0 = .ok (.aload_n 0, 1) := by decide +kernel
theorem dX11_worth_1 : decode cX11_worth 1 = .ok (.iconst 0, 1) := by decide +kernel
theorem dX11_worth_2 : decode cX11_worth 2 = .ok (.putfield 37, 3) := by decide +kernel
theorem dX11_worth_5 : decode cX11_worth 5 = .ok (.aload_n 0, 1) := by decide +kernel
theorem dX11_worth_6 : decode cX11_worth 6 = .ok (.iload_n 1, 1) := by decide +kernel
theorem dX11_worth_7 : decode cX11_worth 7 = .ok (.invokevirtual 102, 3) := by decide +kernel
theorem dX11_worth_10 : decode cX11_worth 10 = .ok (.ifCond .ne 6, 3) := by decide +kernel
theorem dX11_worth_13 : decode cX11_worth 13 = .ok (.bipush (-101), 2) := by decide +kernel
theorem dX11_worth_15 : decode cX11_worth 15 = .ok (.ireturn, 1) := by decide +kernel
theorem dX11_worth_16 : decode cX11_worth 16 = .ok (.aload_n 0, 1) := by decide +kernel
theorem dX11_worth_17 : decode cX11_worth 17 = .ok (.iload_n 1, 1) := by decide +kernel
theorem dX11_worth_18 : decode cX11_worth 18 = .ok (.invokevirtual 95, 3) := by decide +kernel
theorem dX11_worth_21 : decode cX11_worth 21 = .ok (.istore_n 2, 1) := by decide +kernel
theorem dX11_worth_22 : decode cX11_worth 22 = .ok (.aload_n 0, 1) := by decide +kernel
theorem dX11_worth_23 : decode cX11_worth 23 = .ok (.aload_n 0, 1) := by decide +kernel
theorem dX11_worth_24 : decode cX11_worth 24 = .ok (.getfield 85, 3) := by decide +kernel
theorem dX11_worth_27 : decode cX11_worth 27 = .ok (.ifCond .eq 7, 3) := by decide +kernel
theorem dX11_worth_30 : decode cX11_worth 30 = .ok (.iconst 1, 1) := by decide +kernel
theorem dX11_worth_31 : decode cX11_worth 31 = .ok (.goto 4, 3) := by decide +kernel
theorem dX11_worth_34 : decode cX11_worth 34 = .ok (.iconst 0, 1) := by decide +kernel
theorem dX11_worth_35 : decode cX11_worth 35 = .ok (.putfield 37, 3) := by decide +kernel
theorem dX11_worth_38 : decode cX11_worth 38 = .ok (.iload_n 2, 1) := by decide +kernel
theorem dX11_worth_39 : decode cX11_worth 39 = .ok (.ireturn, 1) := by decide +kernel
theorem dX11_cost_0 : decode cX11_cost 0 = .ok (.aload_n 0, 1) := by decide +kernel
theorem dX11_cost_1 : decode cX11_cost 1 = .ok (.iconst 0, 1) := by decide +kernel
theorem dX11_cost_2 : decode cX11_cost 2 = .ok (.putfield 37, 3) := by decide +kernel
theorem dX11_cost_5 : decode cX11_cost 5 = .ok (.aload_n 0, 1) := by decide +kernel
theorem dX11_cost_6 : decode cX11_cost 6 = .ok (.iload_n 1, 1) := by decide +kernel
theorem dX11_cost_7 : decode cX11_cost 7 = .ok (.invokevirtual 102, 3) := by decide +kernel
theorem dX11_cost_10 : decode cX11_cost 10 = .ok (.ifCond .ne 6, 3) := by decide +kernel
theorem dX11_cost_13 : decode cX11_cost 13 = .ok (.bipush (-101), 2) := by decide +kernel
theorem dX11_cost_15 : decode cX11_cost 15 = .ok (.ireturn, 1) := by decide +kernel
theorem dX11_cost_16 : decode cX11_cost 16 = .ok (.aload_n 0, 1) := by decide +kernel
theorem dX11_cost_17 : decode cX11_cost 17 = .ok (.iload_n 1, 1) := by decide +kernel
theorem dX11_cost_18 : decode cX11_cost 18 = .ok (.invokevirtual 118, 3) := by decide +kernel
theorem dX11_cost_21 : decode cX11_cost 21 = .ok (.ifCond .ne 6, 3) := by decide +kernel
theorem dX11_cost_24 : decode cX11_cost 24 = .ok (.bipush (-103), 2) := by decide +kernel
theorem dX11_cost_26 : decode cX11_cost 26 = .ok (.ireturn, 1) := by decide +kernel
theorem dX11_cost_27 : decode cX11_cost 27 = .ok (.aload_n 0, 1) := by decide +kernel
theorem dX11_cost_28 : decode cX11_cost 28 = .ok (.iload_n 1, 1) := by decide +kernel
theorem dX11_cost_29 : decode cX11_cost 29 = .ok (.invokevirtual 121, 3) := by decide +kernel
theorem dX11_cost_32 : decode cX11_cost 32 = .ok (.istore_n 2, 1) := by decide +kernel
theorem dX11_cost_33 : decode cX11_cost 33 = .ok (.aload_n 0, 1) := by decide +kernel
theorem dX11_cost_34 : decode cX11_cost 34 = .ok (.aload_n 0, 1) := by decide +kernel
theorem dX11_cost_35 : decode cX11_cost 35 = .ok (.getfield 85, 3) := by decide +kernel
theorem dX11_cost_38 : decode cX11_cost 38 = .ok (.ifCond .eq 7, 3) := by decide +kernel
theorem dX11_cost_41 : decode cX11_cost 41 = .ok (.iconst 1, 1) := by decide +kernel
theorem dX11_cost_42 : decode cX11_cost 42 = .ok (.goto 4, 3) := by decide +kernel
theorem dX11_cost_45 : decode cX11_cost 45 = .ok (.iconst 0, 1) := by decide +kernel
theorem dX11_cost_46 : decode cX11_cost 46 = .ok (.putfield 37, 3) := by decide +kernel
theorem dX11_cost_49 : decode cX11_cost 49 = .ok (.aload_n 0, 1) := by decide +kernel
theorem dX11_cost_50 : decode cX11_cost 50 = .ok (.getfield 85, 3) := by decide +kernel
theorem dX11_cost_53 : decode cX11_cost 53 = .ok (.ifCond .eq 7, 3) := by decide +kernel
theorem dX11_cost_56 : decode cX11_cost 56 = .ok (.iconst 0, 1) := by decide +kernel
theorem dX11_cost_57 : decode cX11_cost 57 = .ok (.goto 4, 3) := by decide +kernel
theorem dX11_cost_60 : decode cX11_cost 60 = .ok (.iload_n 2, 1) := by decide +kernel
theorem dX11_cost_61 : decode cX11_cost 61 = .ok (.ireturn, 1) := by decide +kernel
theorem dX11_change_0 : decode cX11_change 0 = .ok (.aload_n 0, 1) := by decide +kernel
theorem dX11_change_1 : decode cX11_change 1 = .ok (.iconst 0, 1) := by decide +kernel
theorem dX11_change_2 : decode cX11_change 2 = .ok (.putfield 37, 3) := by decide +kernel
theorem dX11_change_5 : decode cX11_change 5 = .ok (.aload_n 0, 1) := by decide +kernel
theorem dX11_change_6 : decode cX11_change 6 = .ok (.iload_n 1, 1) := by decide +kernel
theorem dX11_change_7 : decode cX11_change 7 = .ok (.invokevirtual 102, 3) := by decide +kernel
theorem dX11_change_10 : decode cX11_change 10 = .ok (.ifCond .ne 6, 3) := by decide +kernel
theorem dX11_change_13 : decode cX11_change 13 = .ok (.bipush (-101), 2) := by decide +kernel
theorem dX11_change_15 : decode cX11_change 15 = .ok (.ireturn, 1) := by decide +kernel
theorem dX11_change_16 : decode cX11_change 16 = .ok (.iload_n 2, 1) := by decide +kernel
theorem dX11_change_17 : decode cX11_change 17 = .ok (.iconst 0, 1) := by decide +kernel
theorem dX11_change_18 : decode cX11_change 18 = .ok (.ldc 124, 2) := by decide +kernel
theorem dX11_change_20 : decode cX11_change 20 = .ok (.invokestatic 44, 3) := by decide +kernel
theorem dX11_change_23 : decode cX11_change 23 = .ok (.ifCond .ne 6, 3) := by decide +kernel
theorem dX11_change_26 : decode cX11_change 26 = .ok (.bipush (-102), 2) := by decide +kernel
theorem dX11_change_28 : decode cX11_change 28 = .ok (.ireturn, 1) := by decide +kernel
theorem dX11_change_29 : decode cX11_change 29 = .ok (.aload_n 0, 1) := by decide +kernel
theorem dX11_change_30 : decode cX11_change 30 = .ok (.iload_n 1, 1) := by decide +kernel
theorem dX11_change_31 : decode cX11_change 31 = .ok (.invokevirtual 118, 3) := by decide +kernel
theorem dX11_change_34 : decode cX11_change 34 = .ok (.ifCond .ne 6, 3) := by decide +kernel
theorem dX11_change_37 : decode cX11_change 37 = .ok (.bipush (-103), 2) := by decide +kernel
theorem dX11_change_39 : decode cX11_change 39 = .ok (.ireturn, 1) := by decide +kernel
theorem dX11_change_40 : decode cX11_change 40 = .ok (.aload_n 0, 1) := by decide +kernel
theorem dX11_change_41 : decode cX11_change 41 = .ok (.iload_n 1, 1) := by decide +kernel
theorem dX11_change_42 : decode cX11_change 42 = .ok (.invokevirtual 121, 3) := by decide +kernel
theorem dX11_change_45 : decode cX11_change 45 = .ok (.istore_n 3, 1) := by decide +kernel
theorem dX11_change_46 : decode cX11_change 46 = .ok (.aload_n 0, 1) := by decide +kernel
theorem dX11_change_47 : decode cX11_change 47 = .ok (.aload_n 0, 1) := by decide +kernel
theorem dX11_change_48 : decode cX11_change 48 = .ok (.getfield 85, 3) := by decide +kernel
theorem dX11_change_51 : decode cX11_change 51 = .ok (.ifCond .eq 7, 3) := by decide +kernel
theorem dX11_change_54 : decode cX11_change 54 = .ok (.iconst 1, 1) := by decide +kernel
theorem dX11_change_55 : decode cX11_change 55 = .ok (.goto 4, 3) := by decide +kernel
theorem dX11_change_58 : decode cX11_change 58 = .ok (.iconst 0, 1) := by decide +kernel
theorem dX11_change_59 : decode cX11_change 59 = .ok (.putfield 37, 3) := by decide +kernel
theorem dX11_change_62 : decode cX11_change 62 = .ok (.aload_n 0, 1) := by decide +kernel
theorem dX11_change_63 : decode cX11_change 63 = .ok (.getfield 85, 3) := by decide +kernel
theorem dX11_change_66 : decode cX11_change 66 = .ok (.ifCond .eq 7, 3) := by decide +kernel
theorem dX11_change_69 : decode cX11_change 69 = .ok (.iconst 0, 1) := by decide +kernel
theorem dX11_change_70 : decode cX11_change 70 = .ok (.goto 15, 3) := by decide +kernel
theorem dX11_change_73 : decode cX11_change 73 = .ok (.iload_n 2, 1) := by decide +kernel
theorem dX11_change_74 : decode cX11_change 74 = .ok (.iload_n 3, 1) := by decide +kernel
theorem dX11_change_75 : decode cX11_change 75 = .ok (.if_icmp .ge 7, 3) := by decide +kernel
theorem dX11_change_78 : decode cX11_change 78 = .ok (.iconst (-1), 1) := by decide +kernel
theorem dX11_change_79 : decode cX11_change 79 = .ok (.goto 6, 3) := by decide +kernel
theorem dX11_change_82 : decode cX11_change 82 = .ok (.iload_n 2, 1) := by decide +kernel
theorem dX11_change_83 : decode cX11_change 83 = .ok (.iload_n 3, 1) := by decide +kernel
theorem dX11_change_84 : decode cX11_change 84 = .ok (.isub, 1) := by decide +kernel
theorem dX11_change_85 : decode cX11_change 85 = .ok (.ireturn, 1) := by decide +kernel
theorem dX11_fire_0 : decode cX11_fire 0 = .ok (.aload_n 0, 1) := by decide +kernel
theorem dX11_fire_1 : decode cX11_fire 1 = .ok (.iconst 0, 1) := by decide +kernel
theorem dX11_fire_2 : decode cX11_fire 2 = .ok (.putfield 37, 3) := by decide +kernel
theorem dX11_fire_5 : decode cX11_fire 5 = .ok (.iload_n 1, 1) := by decide +kernel
theorem dX11_fire_6 : decode cX11_fire 6 = .ok (.iconst 0, 1) := by decide +kernel
theorem dX11_fire_7 : decode cX11_fire 7 = .ok (.sipush 400, 3) := by decide +kernel
theorem dX11_fire_10 : decode cX11_fire 10 = .ok (.invokestatic 44, 3) := by decide +kernel
theorem dX11_fire_13 : decode cX11_fire 13 = .ok (.ifCond .ne 6, 3) := by decide +kernel
theorem dX11_fire_16 : decode cX11_fire 16 = .ok (.bipush (-102), 2) := by decide +kernel
theorem dX11_fire_18 : decode cX11_fire 18 = .ok (.ireturn, 1) := by decide +kernel
theorem dX11_fire_19 : decode cX11_fire 19 = .ok (.iconst 0, 1) := by decide +kernel
theorem dX11_fire_20 : decode cX11_fire 20 = .ok (.istore_n 2, 1) := by decide +kernel
theorem dX11_fire_21 : decode cX11_fire 21 = .ok (.iconst 0, 1) := by decide +kernel
theorem dX11_fire_22 : decode cX11_fire 22 = .ok (.istore_n 3, 1) := by decide +kernel
theorem dX11_fire_23 : decode cX11_fire 23 = .ok (.iload_n 3, 1) := by decide +kernel
theorem dX11_fire_24 : decode cX11_fire 24 = .ok (.iconst 4, 1) := by decide +kernel
theorem dX11_fire_25 : decode cX11_fire 25 = .ok (.if_icmp .ge 67, 3) := by decide +kernel
theorem dX11_fire_28 : decode cX11_fire 28 = .ok (.iconst 0, 1) := by decide +kernel
theorem dX11_fire_29 : decode cX11_fire 29 = .ok (.istore 4, 2) := by decide +kernel
theorem dX11_fire_31 : decode cX11_fire 31 = .ok (.iload 4, 2) := by decide +kernel
theorem dX11_fire_33 : decode cX11_fire 33 = .ok (.aload_n 0, 1) := by decide +kernel
theorem dX11_fire_34 : decode cX11_fire 34 = .ok (.getfield 28, 3) := by decide +kernel
theorem dX11_fire_37 : decode cX11_fire 37 = .ok (.iload_n 3, 1) := by decide +kernel
theorem dX11_fire_38 : decode cX11_fire 38 = .ok (.iaload, 1) := by decide +kernel
theorem dX11_fire_39 : decode cX11_fire 39 = .ok (.if_icmp .ge 47, 3) := by decide +kernel
theorem dX11_fire_42 : decode cX11_fire 42 = .ok (.aload_n 0, 1) := by decide +kernel
theorem dX11_fire_43 : decode cX11_fire 43 = .ok (.getfield 31, 3) := by decide +kernel
theorem dX11_fire_46 : decode cX11_fire 46 = .ok (.bipush 8, 2) := by decide +kernel
theorem dX11_fire_48 : decode cX11_fire 48 = .ok (.iload_n 3, 1) := by decide +kernel
theorem dX11_fire_49 : decode cX11_fire 49 = .ok (.imul, 1) := by decide +kernel
theorem dX11_fire_50 : decode cX11_fire 50 = .ok (.iload 4, 2) := by decide +kernel
theorem dX11_fire_52 : decode cX11_fire 52 = .ok (.iadd, 1) := by decide +kernel
theorem dX11_fire_53 : decode cX11_fire 53 = .ok (.iaload, 1) := by decide +kernel
theorem dX11_fire_54 : decode cX11_fire 54 = .ok (.istore 5, 2) := by decide +kernel
theorem dX11_fire_56 : decode cX11_fire 56 = .ok (.iload_n 2, 1) := by decide +kernel
theorem dX11_fire_57 : decode cX11_fire 57 = .ok (.iload 5, 2) := by decide +kernel
theorem dX11_fire_59 : decode cX11_fire 59 = .ok (.iconst (-1), 1) := by decide +kernel
theorem dX11_fire_60 : decode cX11_fire 60 = .ok (.if_icmp .eq 17, 3) := by decide +kernel
theorem dX11_fire_63 : decode cX11_fire 63 = .ok (.aload_n 0, 1) := by decide +kernel
theorem dX11_fire_64 : decode cX11_fire 64 = .ok (.iload 5, 2) := by decide +kernel
theorem dX11_fire_66 : decode cX11_fire 66 = .ok (.iload_n 1, 1) := by decide +kernel
theorem dX11_fire_67 : decode cX11_fire 67 = .ok (.invokevirtual 115, 3) := by decide +kernel
theorem dX11_fire_70 : decode cX11_fire 70 = .ok (.ifCond .eq 7, 3) := by decide +kernel
theorem dX11_fire_73 : decode cX11_fire 73 = .ok (.iconst 1, 1) := by decide +kernel
theorem dX11_fire_74 : decode cX11_fire 74 = .ok (.goto 4, 3) := by decide +kernel
theorem dX11_fire_77 : decode cX11_fire 77 = .ok (.iconst 0, 1) := by decide +kernel
theorem dX11_fire_78 : decode cX11_fire 78 = .ok (.iadd, 1) := by decide +kernel
theorem dX11_fire_79 : decode cX11_fire 79 = .ok (.istore_n 2, 1) := by decide +kernel
theorem dX11_fire_80 : decode cX11_fire 80 = .ok (.iinc 4 1, 3) := by decide +kernel
theorem dX11_fire_83 : decode cX11_fire 83 = .ok (.goto (-52), 3) := by decide +kernel
theorem dX11_fire_86 : decode cX11_fire 86 = .ok (.iinc 3 1, 3) := by decide +kernel
theorem dX11_fire_89 : decode cX11_fire 89 = .ok (.goto (-66), 3) := by decide +kernel
theorem dX11_fire_92 : decode cX11_fire 92 = .ok (.iload_n 2, 1) := by decide +kernel
theorem dX11_fire_93 : decode cX11_fire 93 = .ok (.ireturn, 1) := by decide +kernel
theorem dX11_night_0 : decode cX11_night 0 = .ok (.aload_n 0, 1) := by decide +kernel
theorem dX11_night_1 : decode cX11_night 1 = .ok (.iconst 0, 1) := by decide +kernel
theorem dX11_night_2 : decode cX11_night 2 = .ok (.putfield 37, 3) := by decide +kernel
theorem dX11_night_5 : decode cX11_night 5 = .ok (.iload_n 1, 1) := by decide +kernel
theorem dX11_night_6 : decode cX11_night 6 = .ok (.iconst 0, 1) := by decide +kernel
theorem dX11_night_7 : decode cX11_night 7 = .ok (.sipush 600, 3) := by decide +kernel
theorem dX11_night_10 : decode cX11_night 10 = .ok (.invokestatic 44, 3) := by decide +kernel
theorem dX11_night_13 : decode cX11_night 13 = .ok (.ifCond .ne 6, 3) := by decide +kernel
theorem dX11_night_16 : decode cX11_night 16 = .ok (.bipush (-102), 2) := by decide +kernel
theorem dX11_night_18 : decode cX11_night 18 = .ok (.ireturn, 1) := by decide +kernel
theorem dX11_night_19 : decode cX11_night 19 = .ok (.iconst 0, 1) := by decide +kernel
theorem dX11_night_20 : decode cX11_night 20 = .ok (.istore_n 2, 1) := by decide +kernel
theorem dX11_night_21 : decode cX11_night 21 = .ok (.iconst 0, 1) := by decide +kernel
theorem dX11_night_22 : decode cX11_night 22 = .ok (.istore_n 3, 1) := by decide +kernel
theorem dX11_night_23 : decode cX11_night 23 = .ok (.iload_n 3, 1) := by decide +kernel
theorem dX11_night_24 : decode cX11_night 24 = .ok (.aload_n 0, 1) := by decide +kernel
theorem dX11_night_25 : decode cX11_night 25 = .ok (.getfield 41, 3) := by decide +kernel
theorem dX11_night_28 : decode cX11_night 28 = .ok (.if_icmp .ge 32, 3) := by decide +kernel
theorem dX11_night_31 : decode cX11_night 31 = .ok (.aload_n 0, 1) := by decide +kernel
theorem dX11_night_32 : decode cX11_night 32 = .ok (.iload_n 3, 1) := by decide +kernel
theorem dX11_night_33 : decode cX11_night 33 = .ok (.iload_n 1, 1) := by decide +kernel
theorem dX11_night_34 : decode cX11_night 34 = .ok (.invokevirtual 105, 3) := by decide +kernel
theorem dX11_night_37 : decode cX11_night 37 = .ok (.istore 4, 2) := by decide +kernel
theorem dX11_night_39 : decode cX11_night 39 = .ok (.iload_n 2, 1) := by decide +kernel
theorem dX11_night_40 : decode cX11_night 40 = .ok (.aload_n 0, 1) := by decide +kernel
theorem dX11_night_41 : decode cX11_night 41 = .ok (.getfield 61, 3) := by decide +kernel
theorem dX11_night_44 : decode cX11_night 44 = .ok (.ifCond .eq 7, 3) := by decide +kernel
theorem dX11_night_47 : decode cX11_night 47 = .ok (.iconst 1, 1) := by decide +kernel
theorem dX11_night_48 : decode cX11_night 48 = .ok (.goto 4, 3) := by decide +kernel
theorem dX11_night_51 : decode cX11_night 51 = .ok (.iconst 0, 1) := by decide +kernel
theorem dX11_night_52 : decode cX11_night 52 = .ok (.iadd, 1) := by decide +kernel
theorem dX11_night_53 : decode cX11_night 53 = .ok (.istore_n 2, 1) := by decide +kernel
theorem dX11_night_54 : decode cX11_night 54 = .ok (.iinc 3 1, 3) := by decide +kernel
theorem dX11_night_57 : decode cX11_night 57 = .ok (.goto (-34), 3) := by decide +kernel
theorem dX11_night_60 : decode cX11_night 60 = .ok (.iload_n 2, 1) := by decide +kernel
theorem dX11_night_61 : decode cX11_night 61 = .ok (.ireturn, 1) := by decide +kernel
theorem dX11_at_0 : decode cX11_at 0 = .ok (.aload_n 0, 1) := by decide +kernel
theorem dX11_at_1 : decode cX11_at 1 = .ok (.iconst 0, 1) := by decide +kernel
theorem dX11_at_2 : decode cX11_at 2 = .ok (.putfield 37, 3) := by decide +kernel
theorem dX11_at_5 : decode cX11_at 5 = .ok (.iload_n 1, 1) := by decide +kernel
theorem dX11_at_6 : decode cX11_at 6 = .ok (.invokestatic 98, 3) := by decide +kernel
theorem dX11_at_9 : decode cX11_at 9 = .ok (.ifCond .ne 6, 3) := by decide +kernel
theorem dX11_at_12 : decode cX11_at 12 = .ok (.bipush (-102), 2) := by decide +kernel
theorem dX11_at_14 : decode cX11_at 14 = .ok (.ireturn, 1) := by decide +kernel
theorem dX11_at_15 : decode cX11_at 15 = .ok (.iload_n 2, 1) := by decide +kernel
theorem dX11_at_16 : decode cX11_at 16 = .ok (.iconst 0, 1) := by decide +kernel
theorem dX11_at_17 : decode cX11_at 17 = .ok (.aload_n 0, 1) := by decide +kernel
theorem dX11_at_18 : decode cX11_at 18 = .ok (.getfield 28, 3) := by decide +kernel
theorem dX11_at_21 : decode cX11_at 21 = .ok (.iload_n 1, 1) := by decide +kernel
theorem dX11_at_22 : decode cX11_at 22 = .ok (.iaload, 1) := by decide +kernel
theorem dX11_at_23 : decode cX11_at 23 = .ok (.iconst 1, 1) := by decide +kernel
theorem dX11_at_24 : decode cX11_at 24 = .ok (.isub, 1) := by decide +kernel
theorem dX11_at_25 : decode cX11_at 25 = .ok (.invokestatic 44, 3) := by decide +kernel
theorem dX11_at_28 : decode cX11_at 28 = .ok (.ifCond .eq 17, 3) := by decide +kernel
theorem dX11_at_31 : decode cX11_at 31 = .ok (.aload_n 0, 1) := by decide +kernel
theorem dX11_at_32 : decode cX11_at 32 = .ok (.getfield 31, 3) := by decide +kernel
theorem dX11_at_35 : decode cX11_at 35 = .ok (.bipush 8, 2) := by decide +kernel
theorem dX11_at_37 : decode cX11_at 37 = .ok (.iload_n 1, 1) := by decide +kernel
theorem dX11_at_38 : decode cX11_at 38 = .ok (.imul, 1) := by decide +kernel
theorem dX11_at_39 : decode cX11_at 39 = .ok (.iload_n 2, 1) := by decide +kernel
theorem dX11_at_40 : decode cX11_at 40 = .ok (.iadd, 1) := by decide +kernel
theorem dX11_at_41 : decode cX11_at 41 = .ok (.iaload, 1) := by decide +kernel
theorem dX11_at_42 : decode cX11_at 42 = .ok (.goto 4, 3) := by decide +kernel
theorem dX11_at_45 : decode cX11_at 45 = .ok (.iconst (-1), 1) := by decide +kernel
theorem dX11_at_46 : decode cX11_at 46 = .ok (.ireturn, 1) := by decide +kernel
theorem dX11_places_0 : decode cX11_places 0 = .ok (.aload_n 0, 1) := by decide +kernel
theorem dX11_places_1 : decode cX11_places 1 = .ok (.iconst 0, 1) := by decide +kernel
theorem dX11_places_2 : decode cX11_places 2 = .ok (.putfield 37, 3) := by decide +kernel
theorem dX11_places_5 : decode cX11_places 5 = .ok (.iload_n 1, 1) := by decide +kernel
theorem dX11_places_6 : decode cX11_places 6 = .ok (.invokestatic 98, 3) := by decide +kernel
theorem dX11_places_9 : decode cX11_places 9 = .ok (.ifCond .eq 12, 3) := by decide +kernel
theorem dX11_places_12 : decode cX11_places 12 = .ok (.aload_n 0, 1) := by decide +kernel
theorem dX11_places_13 : decode cX11_places 13 = .ok (.getfield 28, 3) := by decide +kernel
theorem dX11_places_16 : decode cX11_places 16 = .ok (.iload_n 1, 1) := by decide +kernel
theorem dX11_places_17 : decode cX11_places 17 = .ok (.iaload, 1) := by decide +kernel
theorem dX11_places_18 : decode cX11_places 18 = .ok (.goto 5, 3) := by decide +kernel
theorem dX11_places_21 : decode cX11_places 21 = .ok (.bipush (-102), 2) := by decide +kernel
theorem dX11_places_23 : decode cX11_places 23 = .ok (.ireturn, 1) := by decide +kernel
theorem dX11_tell_0 : decode cX11_tell 0 = .ok (.aload_n 0, 1) := by decide +kernel
theorem dX11_tell_1 : decode cX11_tell 1 = .ok (.iconst 0, 1) := by decide +kernel
theorem dX11_tell_2 : decode cX11_tell 2 = .ok (.putfield 37, 3) := by decide +kernel
theorem dX11_tell_5 : decode cX11_tell 5 = .ok (.aload_n 0, 1) := by decide +kernel
theorem dX11_tell_6 : decode cX11_tell 6 = .ok (.iload_n 1, 1) := by decide +kernel
theorem dX11_tell_7 : decode cX11_tell 7 = .ok (.invokevirtual 102, 3) := by decide +kernel
theorem dX11_tell_10 : decode cX11_tell 10 = .ok (.ifCond .ne 6, 3) := by decide +kernel
theorem dX11_tell_13 : decode cX11_tell 13 = .ok (.bipush (-101), 2) := by decide +kernel
theorem dX11_tell_15 : decode cX11_tell 15 = .ok (.ireturn, 1) := by decide +kernel
theorem dX11_tell_16 : decode cX11_tell 16 = .ok (.iload_n 2, 1) := by decide +kernel
theorem dX11_tell_17 : decode cX11_tell 17 = .ok (.tableswitch 81 0 5 #[39, 46, 53, 60, 67, 74], 39) := by decide +kernel
theorem dX11_tell_56 : decode cX11_tell 56 = .ok (.aload_n 0, 1) := by decide +kernel
theorem dX11_tell_57 : decode cX11_tell 57 = .ok (.getfield 7, 3) := by decide +kernel
theorem dX11_tell_60 : decode cX11_tell 60 = .ok (.iload_n 1, 1) := by decide +kernel
theorem dX11_tell_61 : decode cX11_tell 61 = .ok (.iaload, 1) := by decide +kernel
theorem dX11_tell_62 : decode cX11_tell 62 = .ok (.ireturn, 1) := by decide +kernel
theorem dX11_tell_63 : decode cX11_tell 63 = .ok (.aload_n 0, 1) := by decide +kernel
theorem dX11_tell_64 : decode cX11_tell 64 = .ok (.getfield 13, 3) := by decide +kernel
theorem dX11_tell_67 : decode cX11_tell 67 = .ok (.iload_n 1, 1) := by decide +kernel
theorem dX11_tell_68 : decode cX11_tell 68 = .ok (.iaload, 1) := by decide +kernel
theorem dX11_tell_69 : decode cX11_tell 69 = .ok (.ireturn, 1) := by decide +kernel
theorem dX11_tell_70 : decode cX11_tell 70 = .ok (.aload_n 0, 1) := by decide +kernel
theorem dX11_tell_71 : decode cX11_tell 71 = .ok (.getfield 16, 3) := by decide +kernel
theorem dX11_tell_74 : decode cX11_tell 74 = .ok (.iload_n 1, 1) := by decide +kernel
theorem dX11_tell_75 : decode cX11_tell 75 = .ok (.iaload, 1) := by decide +kernel
theorem dX11_tell_76 : decode cX11_tell 76 = .ok (.ireturn, 1) := by decide +kernel
theorem dX11_tell_77 : decode cX11_tell 77 = .ok (.aload_n 0, 1) := by decide +kernel
theorem dX11_tell_78 : decode cX11_tell 78 = .ok (.getfield 19, 3) := by decide +kernel
theorem dX11_tell_81 : decode cX11_tell 81 = .ok (.iload_n 1, 1) := by decide +kernel
theorem dX11_tell_82 : decode cX11_tell 82 = .ok (.iaload, 1) := by decide +kernel
theorem dX11_tell_83 : decode cX11_tell 83 = .ok (.ireturn, 1) := by decide +kernel
theorem dX11_tell_84 : decode cX11_tell 84 = .ok (.aload_n 0, 1) := by decide +kernel
theorem dX11_tell_85 : decode cX11_tell 85 = .ok (.getfield 22, 3) := by decide +kernel
theorem dX11_tell_88 : decode cX11_tell 88 = .ok (.iload_n 1, 1) := by decide +kernel
theorem dX11_tell_89 : decode cX11_tell 89 = .ok (.iaload, 1) := by decide +kernel
theorem dX11_tell_90 : decode cX11_tell 90 = .ok (.ireturn, 1) := by decide +kernel
theorem dX11_tell_91 : decode cX11_tell 91 = .ok (.aload_n 0, 1) := by decide +kernel
theorem dX11_tell_92 : decode cX11_tell 92 = .ok (.getfield 25, 3) := by decide +kernel
theorem dX11_tell_95 : decode cX11_tell 95 = .ok (.iload_n 1, 1) := by decide +kernel
theorem dX11_tell_96 : decode cX11_tell 96 = .ok (.iaload, 1) := by decide +kernel
theorem dX11_tell_97 : decode cX11_tell 97 = .ok (.ireturn, 1) := by decide +kernel
theorem dX11_tell_98 : decode cX11_tell 98 = .ok (.bipush (-102), 2) := by decide +kernel
theorem dX11_tell_100 : decode cX11_tell 100 = .ok (.ireturn, 1) := by decide +kernel
theorem dX11_book_0 : decode cX11_book 0 = .ok (.aload_n 0, 1) := by decide +kernel
theorem dX11_book_1 : decode cX11_book 1 = .ok (.iconst 0, 1) := by decide +kernel
theorem dX11_book_2 : decode cX11_book 2 = .ok (.putfield 37, 3) := by decide +kernel
theorem dX11_book_5 : decode cX11_book 5 = .ok (.iload_n 1, 1) := by decide +kernel
theorem dX11_book_6 : decode cX11_book 6 = .ok (.ifCond .lt 36, 3) := by decide +kernel
theorem dX11_book_9 : decode cX11_book 9 = .ok (.iload_n 1, 1) := by decide +kernel
theorem dX11_book_10 : decode cX11_book 10 = .ok (.aload_n 0, 1) := by decide +kernel
theorem dX11_book_11 : decode cX11_book 11 = .ok (.getfield 48, 3) := by decide +kernel
theorem dX11_book_14 : decode cX11_book 14 = .ok (.if_icmp .ge 28, 3) := by decide +kernel
theorem dX11_book_17 : decode cX11_book 17 = .ok (.iload_n 1, 1) := by decide +kernel
theorem dX11_book_18 : decode cX11_book 18 = .ok (.bipush 100, 2) := by decide +kernel
theorem dX11_book_20 : decode cX11_book 20 = .ok (.if_icmp .ge 22, 3) := by decide +kernel
theorem dX11_book_23 : decode cX11_book 23 = .ok (.aload_n 0, 1) := by decide +kernel
theorem dX11_book_24 : decode cX11_book 24 = .ok (.getfield 34, 3) := by decide +kernel
theorem dX11_book_27 : decode cX11_book 27 = .ok (.aload_n 0, 1) := by decide +kernel
theorem dX11_book_28 : decode cX11_book 28 = .ok (.getfield 48, 3) := by decide +kernel
theorem dX11_book_31 : decode cX11_book 31 = .ok (.iconst 1, 1) := by decide +kernel
theorem dX11_book_32 : decode cX11_book 32 = .ok (.isub, 1) := by decide +kernel
theorem dX11_book_33 : decode cX11_book 33 = .ok (.iload_n 1, 1) := by decide +kernel
theorem dX11_book_34 : decode cX11_book 34 = .ok (.isub, 1) := by decide +kernel
theorem dX11_book_35 : decode cX11_book 35 = .ok (.bipush 100, 2) := by decide +kernel
theorem dX11_book_37 : decode cX11_book 37 = .ok (.irem, 1) := by decide +kernel
theorem dX11_book_38 : decode cX11_book 38 = .ok (.iaload, 1) := by decide +kernel
theorem dX11_book_39 : decode cX11_book 39 = .ok (.goto 4, 3) := by decide +kernel
theorem dX11_book_42 : decode cX11_book 42 = .ok (.iconst (-1), 1) := by decide +kernel
theorem dX11_book_43 : decode cX11_book 43 = .ok (.ireturn, 1) := by decide +kernel
theorem dX11_count_0 : decode cX11_count 0 = .ok (.aload_n 0, 1) := by decide +kernel
theorem dX11_count_1 : decode cX11_count 1 = .ok (.iconst 0, 1) := by decide +kernel
theorem dX11_count_2 : decode cX11_count 2 = .ok (.putfield 37, 3) := by decide +kernel
theorem dX11_count_5 : decode cX11_count 5 = .ok (.iload_n 1, 1) := by decide +kernel
theorem dX11_count_6 : decode cX11_count 6 = .ok (.tableswitch 59 0 4 #[34, 39, 44, 49, 54], 34) := by decide +kernel
theorem dX11_count_40 : decode cX11_count 40 = .ok (.aload_n 0, 1) := by decide +kernel
theorem dX11_count_41 : decode cX11_count 41 = .ok (.getfield 41, 3) := by decide +kernel
theorem dX11_count_44 : decode cX11_count 44 = .ok (.ireturn, 1) := by decide +kernel
theorem dX11_count_45 : decode cX11_count 45 = .ok (.aload_n 0, 1) := by decide +kernel
theorem dX11_count_46 : decode cX11_count 46 = .ok (.getfield 48, 3) := by decide +kernel
theorem dX11_count_49 : decode cX11_count 49 = .ok (.ireturn, 1) := by decide +kernel
theorem dX11_count_50 : decode cX11_count 50 = .ok (.aload_n 0, 1) := by decide +kernel
theorem dX11_count_51 : decode cX11_count 51 = .ok (.getfield 68, 3) := by decide +kernel
theorem dX11_count_54 : decode cX11_count 54 = .ok (.ireturn, 1) := by decide +kernel
theorem dX11_count_55 : decode cX11_count 55 = .ok (.aload_n 0, 1) := by decide +kernel
theorem dX11_count_56 : decode cX11_count 56 = .ok (.getfield 112, 3) := by decide +kernel
theorem dX11_count_59 : decode cX11_count 59 = .ok (.ireturn, 1) := by decide +kernel
theorem dX11_count_60 : decode cX11_count 60 = .ok (.aload_n 0, 1) := by decide +kernel
theorem dX11_count_61 : decode cX11_count 61 = .ok (.getfield 92, 3) := by decide +kernel
theorem dX11_count_64 : decode cX11_count 64 = .ok (.ireturn, 1) := by decide +kernel
theorem dX11_count_65 : decode cX11_count 65 = .ok (.bipush (-102), 2) := by decide +kernel
theorem dX11_count_67 : decode cX11_count 67 = .ok (.ireturn, 1) := by decide +kernel
