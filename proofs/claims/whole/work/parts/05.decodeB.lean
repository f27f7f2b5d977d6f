theorem dX5_weighYears_52 : decode cX5_weighYears 52 = .ok (.iastore, 1) := by decide +kernel
theorem dX5_weighYears_53 : decode cX5_weighYears 53 = .ok (.iinc 6 1, 3) := by decide +kernel
theorem dX5_weighYears_56 : decode cX5_weighYears 56 = .ok (.goto (-40), 3) := by decide +kernel
theorem dX5_weighYears_59 : decode cX5_weighYears 59 = .ok (.iload 5, 2) := by decide +kernel
theorem dX5_weighYears_61 : decode cX5_weighYears 61 = .ok (.ireturn, 1) := by decide +kernel
theorem dX5_leads_0 : decode cX5_leads 0 = .ok (.iload_n 1, 1) := by decide +kernel
theorem dX5_leads_1 : decode cX5_leads 1 = .ok (.iload_n 0, 1) := by decide +kernel
theorem dX5_leads_2 : decode cX5_leads 2 = .ok (.isub, 1) := by decide +kernel
theorem dX5_leads_3 : decode cX5_leads 3 = .ok (.sipush 10800, 3) := by decide +kernel
theorem dX5_leads_6 : decode cX5_leads 6 = .ok (.iadd, 1) := by decide +kernel
theorem dX5_leads_7 : decode cX5_leads 7 = .ok (.sipush 21600, 3) := by decide +kernel
theorem dX5_leads_10 : decode cX5_leads 10 = .ok (.invokestatic 199, 3) := by decide +kernel
theorem dX5_leads_13 : decode cX5_leads 13 = .ok (.sipush 10800, 3) := by decide +kernel
theorem dX5_leads_16 : decode cX5_leads 16 = .ok (.isub, 1) := by decide +kernel
theorem dX5_leads_17 : decode cX5_leads 17 = .ok (.ireturn, 1) := by decide +kernel
theorem dX6_init_0 : decode cX6_init 0 = .ok (.aload_n 0, 1) := by decide +kernel
theorem dX6_init_1 : decode cX6_init 1 = .ok (.invokespecial 1, 3) := by decide +kernel
theorem dX6_init_4 : decode cX6_init 4 = .ok (.aload_n 0, 1) := by decide +kernel
theorem dX6_init_5 : decode cX6_init 5 = .ok (.bipush 8, 2) := by decide +kernel
theorem dX6_init_7 : decode cX6_init 7 = .ok (.newarray .int, 2) := by decide +kernel
theorem dX6_init_9 : decode cX6_init 9 = .ok (.putfield 7, 3) := by decide +kernel
theorem dX6_init_12 : decode cX6_init 12 = .ok (.aload_n 0, 1) := by decide +kernel
theorem dX6_init_13 : decode cX6_init 13 = .ok (.bipush 8, 2) := by decide +kernel
theorem dX6_init_15 : decode cX6_init 15 = .ok (.newarray .int, 2) := by decide +kernel
theorem dX6_init_17 : decode cX6_init 17 = .ok (.putfield 13, 3) := by decide +kernel
theorem dX6_init_20 : decode cX6_init 20 = .ok (.aload_n 0, 1) := by decide +kernel
theorem dX6_init_21 : decode cX6_init 21 = .ok (.bipush 8, 2) := by decide +kernel
theorem dX6_init_23 : decode cX6_init 23 = .ok (.newarray .int, 2) := by decide +kernel
theorem dX6_init_25 : decode cX6_init 25 = .ok (.putfield 16, 3) := by decide +kernel
theorem dX6_init_28 : decode cX6_init 28 = .ok (.aload_n 0, 1) := by decide +kernel
theorem dX6_init_29 : decode cX6_init 29 = .ok (.bipush 8, 2) := by decide +kernel
theorem dX6_init_31 : decode cX6_init 31 = .ok (.newarray .int, 2) := by decide +kernel
theorem dX6_init_33 : decode cX6_init 33 = .ok (.putfield 19, 3) := by decide +kernel
theorem dX6_init_36 : decode cX6_init 36 = .ok (.aload_n 0, 1) := by decide +kernel
theorem dX6_init_37 : decode cX6_init 37 = .ok (.bipush 6, 2) := by decide +kernel
theorem dX6_init_39 : decode cX6_init 39 = .ok (.putfield 22, 3) := by decide +kernel
theorem dX6_init_42 : decode cX6_init 42 = .ok (.aload_n 0, 1) := by decide +kernel
theorem dX6_init_43 : decode cX6_init 43 = .ok (.bipush 6, 2) := by decide +kernel
theorem dX6_init_45 : decode cX6_init 45 = .ok (.newarray .int, 2) := by decide +kernel
theorem dX6_init_47 : decode cX6_init 47 = .ok (.putfield 26, 3) := by decide +kernel
theorem dX6_init_50 : decode cX6_init 50 = .ok (.aload_n 0, 1) := by decide +kernel
theorem dX6_init_51 : decode cX6_init 51 = .ok (.bipush 48, 2) := by decide +kernel
theorem dX6_init_53 : decode cX6_init 53 = .ok (.newarray .int, 2) := by decide +kernel
theorem dX6_init_55 : decode cX6_init 55 = .ok (.putfield 29, 3) := by decide +kernel
theorem dX6_init_58 : decode cX6_init 58 = .ok (.aload_n 0, 1) := by decide +kernel
theorem dX6_init_59 : decode cX6_init 59 = .ok (.bipush 48, 2) := by decide +kernel
theorem dX6_init_61 : decode cX6_init 61 = .ok (.newarray .int, 2) := by decide +kernel
theorem dX6_init_63 : decode cX6_init 63 = .ok (.putfield 32, 3) := by decide +kernel
theorem dX6_init_66 : decode cX6_init 66 = .ok (.aload_n 0, 1) := by decide +kernel
theorem dX6_init_67 : decode cX6_init 67 = .ok (.sipush 2304, 3) := by decide +kernel
theorem dX6_init_70 : decode cX6_init 70 = .ok (.newarray .int, 2) := by decide +kernel
theorem dX6_init_72 : decode cX6_init 72 = .ok (.putfield 35, 3) := by decide +kernel
theorem dX6_init_75 : decode cX6_init 75 = .ok (.aload_n 0, 1) := by decide +kernel
theorem dX6_init_76 : decode cX6_init 76 = .ok (.bipush 64, 2) := by decide +kernel
theorem dX6_init_78 : decode cX6_init 78 = .ok (.newarray .int, 2) := by decide +kernel
theorem dX6_init_80 : decode cX6_init 80 = .ok (.putfield 38, 3) := by decide +kernel
theorem dX6_init_83 : decode cX6_init 83 = .ok (.aload_n 0, 1) := by decide +kernel
theorem dX6_init_84 : decode cX6_init 84 = .ok (.bipush 64, 2) := by decide +kernel
theorem dX6_init_86 : decode cX6_init 86 = .ok (.newarray .int, 2) := by decide +kernel
theorem dX6_init_88 : decode cX6_init 88 = .ok (.putfield 41, 3) := by decide +kernel
theorem dX6_init_91 : decode cX6_init 91 = .ok (.aload_n 0, 1) := by decide +kernel
theorem dX6_init_92 : decode cX6_init 92 = .ok (.bipush 8, 2) := by decide +kernel
theorem dX6_init_94 : decode cX6_init 94 = .ok (.newarray .int, 2) := by decide +kernel
theorem dX6_init_96 : decode cX6_init 96 = .ok (.putfield 44, 3) := by decide +kernel
theorem dX6_init_99 : decode cX6_init 99 = .ok (.aload_n 0, 1) := by decide +kernel
theorem dX6_init_100 : decode cX6_init 100 = .ok (.bipush 8, 2) := by decide +kernel
theorem dX6_init_102 : decode cX6_init 102 = .ok (.newarray .int, 2) := by decide +kernel
theorem dX6_init_104 : decode cX6_init 104 = .ok (.putfield 47, 3) := by decide +kernel
theorem dX6_init_107 : decode cX6_init 107 = .ok (.aload_n 0, 1) := by decide +kernel
theorem dX6_init_108 : decode cX6_init 108 = .ok (.bipush 48, 2) := by decide +kernel
theorem dX6_init_110 : decode cX6_init 110 = .ok (.newarray .int, 2) := by decide +kernel
theorem dX6_init_112 : decode cX6_init 112 = .ok (.putfield 50, 3) := by decide +kernel
theorem dX6_init_115 : decode cX6_init 115 = .ok (.aload_n 0, 1) := by decide +kernel
theorem dX6_init_116 : decode cX6_init 116 = .ok (.bipush 6, 2) := by decide +kernel
theorem dX6_init_118 : decode cX6_init 118 = .ok (.newarray .int, 2) := by decide +kernel
theorem dX6_init_120 : decode cX6_init 120 = .ok (.putfield 53, 3) := by decide +kernel
theorem dX6_init_123 : decode cX6_init 123 = .ok (.aload_n 0, 1) := by decide +kernel
theorem dX6_init_124 : decode cX6_init 124 = .ok (.iconst 5, 1) := by decide +kernel
theorem dX6_init_125 : decode cX6_init 125 = .ok (.newarray .int, 2) := by decide +kernel
theorem dX6_init_127 : decode cX6_init 127 = .ok (.putfield 56, 3) := by decide +kernel
theorem dX6_init_130 : decode cX6_init 130 = .ok (.return_, 1) := by decide +kernel
theorem dX6_in_0 : decode cX6_in 0 = .ok (.iload_n 0, 1) := by decide +kernel
theorem dX6_in_1 : decode cX6_in 1 = .ok (.iload_n 1, 1) := by decide +kernel
theorem dX6_in_2 : decode cX6_in 2 = .ok (.if_icmp .lt 12, 3) := by decide +kernel
theorem dX6_in_5 : decode cX6_in 5 = .ok (.iload_n 0, 1) := by decide +kernel
theorem dX6_in_6 : decode cX6_in 6 = .ok (.iload_n 2, 1) := by decide +kernel
theorem dX6_in_7 : decode cX6_in 7 = .ok (.if_icmp .gt 7, 3) := by decide +kernel
theorem dX6_in_10 : decode cX6_in 10 = .ok (.iconst 1, 1) := by decide +kernel
theorem dX6_in_11 : decode cX6_in 11 = .ok (.goto 4, 3) := by decide +kernel
theorem dX6_in_14 : decode cX6_in 14 = .ok (.iconst 0, 1) := by decide +kernel
theorem dX6_in_15 : decode cX6_in 15 = .ok (.ireturn, 1) := by decide +kernel
theorem dX6_size_0 : decode cX6_size 0 = .ok (.iload_n 0, 1) := by decide +kernel
theorem dX6_size_1 : decode cX6_size 1 = .ok (.ifCond .ge 8, 3) := by decide +kernel
theorem dX6_size_4 : decode cX6_size 4 = .ok (.iload_n 0, 1) := by decide +kernel
theorem dX6_size_5 : decode cX6_size 5 = .ok (.ineg, 1) := by decide +kernel
theorem dX6_size_6 : decode cX6_size 6 = .ok (.goto 4, 3) := by decide +kernel
theorem dX6_size_9 : decode cX6_size 9 = .ok (.iload_n 0, 1) := by decide +kernel
theorem dX6_size_10 : decode cX6_size 10 = .ok (.ireturn, 1) := by decide +kernel
theorem dX6_isLong_0 : decode cX6_isLong 0 = .ok (.iload_n 0, 1) := by decide +kernel
theorem dX6_isLong_1 : decode cX6_isLong 1 = .ok (.iconst 0, 1) := by decide +kernel
theorem dX6_isLong_2 : decode cX6_isLong 2 = .ok (.sipush 21599, 3) := by decide +kernel
theorem dX6_isLong_5 : decode cX6_isLong 5 = .ok (.invokestatic 59, 3) := by decide +kernel
theorem dX6_isLong_8 : decode cX6_isLong 8 = .ok (.ireturn, 1) := by decide +kernel
theorem dX6_isWide_0 : decode cX6_isWide 0 = .ok (.iload_n 0, 1) := by decide +kernel
theorem dX6_isWide_1 : decode cX6_isWide 1 = .ok (.sipush (-5400), 3) := by decide +kernel
theorem dX6_isWide_4 : decode cX6_isWide 4 = .ok (.sipush 5400, 3) := by decide +kernel
theorem dX6_isWide_7 : decode cX6_isWide 7 = .ok (.invokestatic 59, 3) := by decide +kernel
theorem dX6_isWide_10 : decode cX6_isWide 10 = .ok (.ireturn, 1) := by decide +kernel
theorem dX6_isYear_0 : decode cX6_isYear 0 = .ok (.iload_n 0, 1) := by decide +kernel
theorem dX6_isYear_1 : decode cX6_isYear 1 = .ok (.sipush (-3000), 3) := by decide +kernel
theorem dX6_isYear_4 : decode cX6_isYear 4 = .ok (.sipush 3000, 3) := by decide +kernel
theorem dX6_isYear_7 : decode cX6_isYear 7 = .ok (.invokestatic 59, 3) := by decide +kernel
theorem dX6_isYear_10 : decode cX6_isYear 10 = .ok (.ireturn, 1) := by decide +kernel
theorem dX6_isShift_0 : decode cX6_isShift 0 = .ok (.iload_n 0, 1) := by decide +kernel
theorem dX6_isShift_1 : decode cX6_isShift 1 = .ok (.sipush (-600), 3) := by decide +kernel
theorem dX6_isShift_4 : decode cX6_isShift 4 = .ok (.sipush 600, 3) := by decide +kernel
theorem dX6_isShift_7 : decode cX6_isShift 7 = .ok (.invokestatic 59, 3) := by decide +kernel
theorem dX6_isShift_10 : decode cX6_isShift 10 = .ok (.ireturn, 1) := by decide +kernel
theorem dX6_isStar_0 : decode cX6_isStar 0 = .ok (.iload_n 1, 1) := by decide +kernel
theorem dX6_isStar_1 : decode cX6_isStar 1 = .ok (.iconst 0, 1) := by decide +kernel
theorem dX6_isStar_2 : decode cX6_isStar 2 = .ok (.aload_n 0, 1) := by decide +kernel
theorem dX6_isStar_3 : decode cX6_isStar 3 = .ok (.getfield 63, 3) := by decide +kernel
theorem dX6_isStar_6 : decode cX6_isStar 6 = .ok (.iconst 1, 1) := by decide +kernel
theorem dX6_isStar_7 : decode cX6_isStar 7 = .ok (.isub, 1) := by decide +kernel
theorem dX6_isStar_8 : decode cX6_isStar 8 = .ok (.invokestatic 59, 3) := by decide +kernel
theorem dX6_isStar_11 : decode cX6_isStar 11 = .ok (.ireturn, 1) := by decide +kernel
theorem dX6_isList_0 : decode cX6_isList 0 = .ok (.iload_n 1, 1) := by decide +kernel
theorem dX6_isList_1 : decode cX6_isList 1 = .ok (.iconst 0, 1) := by decide +kernel
theorem dX6_isList_2 : decode cX6_isList 2 = .ok (.aload_n 0, 1) := by decide +kernel
theorem dX6_isList_3 : decode cX6_isList 3 = .ok (.getfield 66, 3) := by decide +kernel
theorem dX6_isList_6 : decode cX6_isList 6 = .ok (.iconst 1, 1) := by decide +kernel
theorem dX6_isList_7 : decode cX6_isList 7 = .ok (.isub, 1) := by decide +kernel
theorem dX6_isList_8 : decode cX6_isList 8 = .ok (.invokestatic 59, 3) := by decide +kernel
theorem dX6_isList_11 : decode cX6_isList 11 = .ok (.ireturn, 1) := by decide +kernel
theorem dX6_isLine_0 : decode cX6_isLine 0 = .ok (.aload_n 0, 1) := by decide +kernel
theorem dX6_isLine_1 : decode cX6_isLine 1 = .ok (.iload_n 1, 1) := by decide +kernel
theorem dX6_isLine_2 : decode cX6_isLine 2 = .ok (.invokevirtual 69, 3) := by decide +kernel
theorem dX6_isLine_5 : decode cX6_isLine 5 = .ok (.ifCond .eq 23, 3) := by decide +kernel
theorem dX6_isLine_8 : decode cX6_isLine 8 = .ok (.iload_n 2, 1) := by decide +kernel
theorem dX6_isLine_9 : decode cX6_isLine 9 = .ok (.iconst 0, 1) := by decide +kernel
theorem dX6_isLine_10 : decode cX6_isLine 10 = .ok (.aload_n 0, 1) := by decide +kernel
theorem dX6_isLine_11 : decode cX6_isLine 11 = .ok (.getfield 26, 3) := by decide +kernel
theorem dX6_isLine_14 : decode cX6_isLine 14 = .ok (.iload_n 1, 1) := by decide +kernel
theorem dX6_isLine_15 : decode cX6_isLine 15 = .ok (.iaload, 1) := by decide +kernel
theorem dX6_isLine_16 : decode cX6_isLine 16 = .ok (.iconst 1, 1) := by decide +kernel
theorem dX6_isLine_17 : decode cX6_isLine 17 = .ok (.isub, 1) := by decide +kernel
theorem dX6_isLine_18 : decode cX6_isLine 18 = .ok (.invokestatic 59, 3) := by decide +kernel
theorem dX6_isLine_21 : decode cX6_isLine 21 = .ok (.ifCond .eq 7, 3) := by decide +kernel
theorem dX6_isLine_24 : decode cX6_isLine 24 = .ok (.iconst 1, 1) := by decide +kernel
theorem dX6_isLine_25 : decode cX6_isLine 25 = .ok (.goto 4, 3) := by decide +kernel
theorem dX6_isLine_28 : decode cX6_isLine 28 = .ok (.iconst 0, 1) := by decide +kernel
theorem dX6_isLine_29 : decode cX6_isLine 29 = .ok (.ireturn, 1) := by decide +kernel
theorem dX6_star_0 : decode cX6_star 0 = .ok (.iload_n 1, 1) := by decide +kernel
theorem dX6_star_1 : decode cX6_star 1 = .ok (.invokestatic 73, 3) := by decide +kernel
theorem dX6_star_4 : decode cX6_star 4 = .ok (.ifCond .eq 32, 3) := by decide +kernel
theorem dX6_star_7 : decode cX6_star 7 = .ok (.iload_n 2, 1) := by decide +kernel
theorem dX6_star_8 : decode cX6_star 8 = .ok (.invokestatic 76, 3) := by decide +kernel
theorem dX6_star_11 : decode cX6_star 11 = .ok (.ifCond .eq 25, 3) := by decide +kernel
theorem dX6_star_14 : decode cX6_star 14 = .ok (.iload_n 3, 1) := by decide +kernel
theorem dX6_star_15 : decode cX6_star 15 = .ok (.bipush (-50), 2) := by decide +kernel
theorem dX6_star_17 : decode cX6_star 17 = .ok (.bipush 50, 2) := by decide +kernel
theorem dX6_star_19 : decode cX6_star 19 = .ok (.invokestatic 59, 3) := by decide +kernel
theorem dX6_star_22 : decode cX6_star 22 = .ok (.ifCond .eq 14, 3) := by decide +kernel
theorem dX6_star_25 : decode cX6_star 25 = .ok (.iload 4, 2) := by decide +kernel
theorem dX6_star_27 : decode cX6_star 27 = .ok (.iconst 0, 1) := by decide +kernel
theorem dX6_star_28 : decode cX6_star 28 = .ok (.bipush 6, 2) := by decide +kernel
theorem dX6_star_30 : decode cX6_star 30 = .ok (.invokestatic 59, 3) := by decide +kernel
theorem dX6_star_33 : decode cX6_star 33 = .ok (.ifCond .ne 6, 3) := by decide +kernel
theorem dX6_star_36 : decode cX6_star 36 = .ok (.bipush (-2), 2) := by decide +kernel
theorem dX6_star_38 : decode cX6_star 38 = .ok (.ireturn, 1) := by decide +kernel
theorem dX6_star_39 : decode cX6_star 39 = .ok (.aload_n 0, 1) := by decide +kernel
theorem dX6_star_40 : decode cX6_star 40 = .ok (.getfield 63, 3) := by decide +kernel
theorem dX6_star_43 : decode cX6_star 43 = .ok (.bipush 8, 2) := by decide +kernel
theorem dX6_star_45 : decode cX6_star 45 = .ok (.if_icmp .ne 6, 3) := by decide +kernel
theorem dX6_star_48 : decode cX6_star 48 = .ok (.bipush (-4), 2) := by decide +kernel
theorem dX6_star_50 : decode cX6_star 50 = .ok (.ireturn, 1) := by decide +kernel
theorem dX6_star_51 : decode cX6_star 51 = .ok (.aload_n 0, 1) := by decide +kernel
theorem dX6_star_52 : decode cX6_star 52 = .ok (.getfield 7, 3) := by decide +kernel
theorem dX6_star_55 : decode cX6_star 55 = .ok (.aload_n 0, 1) := by decide +kernel
theorem dX6_star_56 : decode cX6_star 56 = .ok (.getfield 63, 3) := by decide +kernel
theorem dX6_star_59 : decode cX6_star 59 = .ok (.iload_n 1, 1) := by decide +kernel
theorem dX6_star_60 : decode cX6_star 60 = .ok (.iastore, 1) := by decide +kernel
theorem dX6_star_61 : decode cX6_star 61 = .ok (.aload_n 0, 1) := by decide +kernel
theorem dX6_star_62 : decode cX6_star 62 = .ok (.getfield 13, 3) := by decide +kernel
theorem dX6_star_65 : decode cX6_star 65 = .ok (.aload_n 0, 1) := by decide +kernel
theorem dX6_star_66 : decode cX6_star 66 = .ok (.getfield 63, 3) := by decide +kernel
theorem dX6_star_69 : decode cX6_star 69 = .ok (.iload_n 2, 1) := by decide +kernel
theorem dX6_star_70 : decode cX6_star 70 = .ok (.iastore, 1) := by decide +kernel
theorem dX6_star_71 : decode cX6_star 71 = .ok (.aload_n 0, 1) := by decide +kernel
theorem dX6_star_72 : decode cX6_star 72 = .ok (.getfield 16, 3) := by decide +kernel
theorem dX6_star_75 : decode cX6_star 75 = .ok (.aload_n 0, 1) := by decide +kernel
theorem dX6_star_76 : decode cX6_star 76 = .ok (.getfield 63, 3) := by decide +kernel
theorem dX6_star_79 : decode cX6_star 79 = .ok (.iload_n 3, 1) := by decide +kernel
theorem dX6_star_80 : decode cX6_star 80 = .ok (.iastore, 1) := by decide +kernel
theorem dX6_star_81 : decode cX6_star 81 = .ok (.aload_n 0, 1) := by decide +kernel
theorem dX6_star_82 : decode cX6_star 82 = .ok (.getfield 19, 3) := by decide +kernel
theorem dX6_star_85 : decode cX6_star 85 = .ok (.aload_n 0, 1) := by decide +kernel
theorem dX6_star_86 : decode cX6_star 86 = .ok (.getfield 63, 3) := by decide +kernel
theorem dX6_star_89 : decode cX6_star 89 = .ok (.iload 4, 2) := by decide +kernel
theorem dX6_star_91 : decode cX6_star 91 = .ok (.iastore, 1) := by decide +kernel
theorem dX6_star_92 : decode cX6_star 92 = .ok (.aload_n 0, 1) := by decide +kernel
theorem dX6_star_93 : decode cX6_star 93 = .ok (.dup, 1) := by decide +kernel
theorem dX6_star_94 : decode cX6_star 94 = .ok (.getfield 63, 3) := by decide +kernel
theorem dX6_star_97 : decode cX6_star 97 = .ok (.iconst 1, 1) := by decide +kernel
theorem dX6_star_98 : decode cX6_star 98 = .ok (.iadd, 1) := by decide +kernel
theorem dX6_star_99 : decode cX6_star 99 = .ok (.putfield 63, 3) := by decide +kernel
theorem dX6_star_102 : decode cX6_star 102 = .ok (.aload_n 0, 1) := by decide +kernel
theorem dX6_star_103 : decode cX6_star 103 = .ok (.getfield 63, 3) := by decide +kernel
theorem dX6_star_106 : decode cX6_star 106 = .ok (.iconst 1, 1) := by decide +kernel
theorem dX6_star_107 : decode cX6_star 107 = .ok (.isub, 1) := by decide +kernel
theorem dX6_star_108 : decode cX6_star 108 = .ok (.ireturn, 1) := by decide +kernel
theorem dX6_by_0 : decode cX6_by 0 = .ok (.iload_n 0, 1) := by decide +kernel
theorem dX6_by_1 : decode cX6_by 1 = .ok (.iload_n 1, 1) := by decide +kernel
theorem dX6_by_2 : decode cX6_by 2 = .ok (.irem, 1) := by decide +kernel
theorem dX6_by_3 : decode cX6_by 3 = .ok (.iload_n 1, 1) := by decide +kernel
theorem dX6_by_4 : decode cX6_by 4 = .ok (.iadd, 1) := by decide +kernel
theorem dX6_by_5 : decode cX6_by 5 = .ok (.iload_n 1, 1) := by decide +kernel
theorem dX6_by_6 : decode cX6_by 6 = .ok (.irem, 1) := by decide +kernel
theorem dX6_by_7 : decode cX6_by 7 = .ok (.istore_n 2, 1) := by decide +kernel
theorem dX6_by_8 : decode cX6_by 8 = .ok (.iload_n 0, 1) := by decide +kernel
theorem dX6_by_9 : decode cX6_by 9 = .ok (.iload_n 2, 1) := by decide +kernel
theorem dX6_by_10 : decode cX6_by 10 = .ok (.isub, 1) := by decide +kernel
theorem dX6_by_11 : decode cX6_by 11 = .ok (.iload_n 1, 1) := by decide +kernel
theorem dX6_by_12 : decode cX6_by 12 = .ok (.idiv, 1) := by decide +kernel
theorem dX6_by_13 : decode cX6_by 13 = .ok (.ireturn, 1) := by decide +kernel
theorem dX6_round_0 : decode cX6_round 0 = .ok (.iload_n 0, 1) := by decide +kernel
theorem dX6_round_1 : decode cX6_round 1 = .ok (.sipush 21600, 3) := by decide +kernel
theorem dX6_round_4 : decode cX6_round 4 = .ok (.irem, 1) := by decide +kernel
theorem dX6_round_5 : decode cX6_round 5 = .ok (.sipush 21600, 3) := by decide +kernel
theorem dX6_round_8 : decode cX6_round 8 = .ok (.iadd, 1) := by decide +kernel
theorem dX6_round_9 : decode cX6_round 9 = .ok (.sipush 21600, 3) := by decide +kernel
theorem dX6_round_12 : decode cX6_round 12 = .ok (.irem, 1) := by decide +kernel
theorem dX6_round_13 : decode cX6_round 13 = .ok (.ireturn, 1) := by decide +kernel
theorem dX6_skyOf_0 : decode cX6_skyOf 0 = .ok (.aload_n 0, 1) := by decide +kernel
theorem dX6_skyOf_1 : decode cX6_skyOf 1 = .ok (.getfield 7, 3) := by decide +kernel
theorem dX6_skyOf_4 : decode cX6_skyOf 4 = .ok (.iload_n 1, 1) := by decide +kernel
theorem dX6_skyOf_5 : decode cX6_skyOf 5 = .ok (.iaload, 1) := by decide +kernel
theorem dX6_skyOf_6 : decode cX6_skyOf 6 = .ok (.iconst 5, 1) := by decide +kernel
theorem dX6_skyOf_7 : decode cX6_skyOf 7 = .ok (.iload_n 2, 1) := by decide +kernel
theorem dX6_skyOf_8 : decode cX6_skyOf 8 = .ok (.imul, 1) := by decide +kernel
theorem dX6_skyOf_9 : decode cX6_skyOf 9 = .ok (.bipush 6, 2) := by decide +kernel
theorem dX6_skyOf_11 : decode cX6_skyOf 11 = .ok (.invokestatic 79, 3) := by decide +kernel
theorem dX6_skyOf_14 : decode cX6_skyOf 14 = .ok (.iadd, 1) := by decide +kernel
theorem dX6_skyOf_15 : decode cX6_skyOf 15 = .ok (.aload_n 0, 1) := by decide +kernel
theorem dX6_skyOf_16 : decode cX6_skyOf 16 = .ok (.getfield 16, 3) := by decide +kernel
theorem dX6_skyOf_19 : decode cX6_skyOf 19 = .ok (.iload_n 1, 1) := by decide +kernel
theorem dX6_skyOf_20 : decode cX6_skyOf 20 = .ok (.iaload, 1) := by decide +kernel
theorem dX6_skyOf_21 : decode cX6_skyOf 21 = .ok (.iload_n 2, 1) := by decide +kernel
theorem dX6_skyOf_22 : decode cX6_skyOf 22 = .ok (.imul, 1) := by decide +kernel
theorem dX6_skyOf_23 : decode cX6_skyOf 23 = .ok (.bipush 100, 2) := by decide +kernel
theorem dX6_skyOf_25 : decode cX6_skyOf 25 = .ok (.invokestatic 79, 3) := by decide +kernel
theorem dX6_skyOf_28 : decode cX6_skyOf 28 = .ok (.iadd, 1) := by decide +kernel
theorem dX6_skyOf_29 : decode cX6_skyOf 29 = .ok (.invokestatic 83, 3) := by decide +kernel
theorem dX6_skyOf_32 : decode cX6_skyOf 32 = .ok (.ireturn, 1) := by decide +kernel
theorem dX6_sky_0 : decode cX6_sky 0 = .ok (.aload_n 0, 1) := by decide +kernel
theorem dX6_sky_1 : decode cX6_sky 1 = .ok (.iload_n 1, 1) := by decide +kernel
theorem dX6_sky_2 : decode cX6_sky 2 = .ok (.invokevirtual 87, 3) := by decide +kernel
theorem dX6_sky_5 : decode cX6_sky 5 = .ok (.ifCond .ne 5, 3) := by decide +kernel
theorem dX6_sky_8 : decode cX6_sky 8 = .ok (.iconst (-1), 1) := by decide +kernel
theorem dX6_sky_9 : decode cX6_sky 9 = .ok (.ireturn, 1) := by decide +kernel
theorem dX6_sky_10 : decode cX6_sky 10 = .ok (.iload_n 2, 1) := by decide +kernel
theorem dX6_sky_11 : decode cX6_sky 11 = .ok (.invokestatic 90, 3) := by decide +kernel
theorem dX6_sky_14 : decode cX6_sky 14 = .ok (.ifCond .eq 12, 3) := by decide +kernel
theorem dX6_sky_17 : decode cX6_sky 17 = .ok (.aload_n 0, 1) := by decide +kernel
theorem dX6_sky_18 : decode cX6_sky 18 = .ok (.iload_n 1, 1) := by decide +kernel
theorem dX6_sky_19 : decode cX6_sky 19 = .ok (.iload_n 2, 1) := by decide +kernel
theorem dX6_sky_20 : decode cX6_sky 20 = .ok (.invokevirtual 93, 3) := by decide +kernel
theorem dX6_sky_23 : decode cX6_sky 23 = .ok (.goto 5, 3) := by decide +kernel
theorem dX6_sky_26 : decode cX6_sky 26 = .ok (.bipush (-2), 2) := by decide +kernel
theorem dX6_sky_28 : decode cX6_sky 28 = .ok (.ireturn, 1) := by decide +kernel
theorem dX6_about_0 : decode cX6_about 0 = .ok (.aload_n 0, 1) := by decide +kernel
theorem dX6_about_1 : decode cX6_about 1 = .ok (.iload_n 1, 1) := by decide +kernel
theorem dX6_about_2 : decode cX6_about 2 = .ok (.invokevirtual 87, 3) := by decide +kernel
theorem dX6_about_5 : decode cX6_about 5 = .ok (.ifCond .ne 5, 3) := by decide +kernel
theorem dX6_about_8 : decode cX6_about 8 = .ok (.iconst (-1), 1) := by decide +kernel
theorem dX6_about_9 : decode cX6_about 9 = .ok (.ireturn, 1) := by decide +kernel
theorem dX6_about_10 : decode cX6_about 10 = .ok (.iload_n 2, 1) := by decide +kernel
theorem dX6_about_11 : decode cX6_about 11 = .ok (.tableswitch 61 0 3 #[29, 36, 43, 50], 29) := by decide +kernel
theorem dX6_about_40 : decode cX6_about 40 = .ok (.aload_n 0, 1) := by decide +kernel
theorem dX6_about_41 : decode cX6_about 41 = .ok (.getfield 7, 3) := by decide +kernel
theorem dX6_about_44 : decode cX6_about 44 = .ok (.iload_n 1, 1) := by decide +kernel
theorem dX6_about_45 : decode cX6_about 45 = .ok (.iaload, 1) := by decide +kernel
theorem dX6_about_46 : decode cX6_about 46 = .ok (.ireturn, 1) := by decide +kernel
theorem dX6_about_47 : decode cX6_about 47 = .ok (.aload_n 0, 1) := by decide +kernel
theorem dX6_about_48 : decode cX6_about 48 = .ok (.getfield 16, 3) := by decide +kernel
theorem dX6_about_51 : decode cX6_about 51 = .ok (.iload_n 1, 1) := by decide +kernel
theorem dX6_about_52 : decode cX6_about 52 = .ok (.iaload, 1) := by decide +kernel
theorem dX6_about_53 : decode cX6_about 53 = .ok (.ireturn, 1) := by decide +kernel
theorem dX6_about_54 : decode cX6_about 54 = .ok (.aload_n 0, 1) := by decide +kernel
theorem dX6_about_55 : decode cX6_about 55 = .ok (.getfield 19, 3) := by decide +kernel
theorem dX6_about_58 : decode cX6_about 58 = .ok (.iload_n 1, 1) := by decide +kernel
theorem dX6_about_59 : decode cX6_about 59 = .ok (.iaload, 1) := by decide +kernel
theorem dX6_about_60 : decode cX6_about 60 = .ok (.ireturn, 1) := by decide +kernel
theorem dX6_about_61 : decode cX6_about 61 = .ok (.aload_n 0, 1) := by decide +kernel
theorem dX6_about_62 : decode cX6_about 62 = .ok (.getfield 13, 3) := by decide +kernel
theorem dX6_about_65 : decode cX6_about 65 = .ok (.iload_n 1, 1) := by decide +kernel
theorem dX6_about_66 : decode cX6_about 66 = .ok (.iaload, 1) := by decide +kernel
theorem dX6_about_67 : decode cX6_about 67 = .ok (.sipush 5400, 3) := by decide +kernel
theorem dX6_about_70 : decode cX6_about 70 = .ok (.iadd, 1) := by decide +kernel
theorem dX6_about_71 : decode cX6_about 71 = .ok (.ireturn, 1) := by decide +kernel
theorem dX6_about_72 : decode cX6_about 72 = .ok (.bipush (-2), 2) := by decide +kernel
theorem dX6_about_74 : decode cX6_about 74 = .ok (.ireturn, 1) := by decide +kernel
theorem dX6_limit_0 : decode cX6_limit 0 = .ok (.iload_n 1, 1) := by decide +kernel
theorem dX6_limit_1 : decode cX6_limit 1 = .ok (.iconst 0, 1) := by decide +kernel
theorem dX6_limit_2 : decode cX6_limit 2 = .ok (.bipush 6, 2) := by decide +kernel
theorem dX6_limit_4 : decode cX6_limit 4 = .ok (.invokestatic 59, 3) := by decide +kernel
theorem dX6_limit_7 : decode cX6_limit 7 = .ok (.ifCond .ne 6, 3) := by decide +kernel
theorem dX6_limit_10 : decode cX6_limit 10 = .ok (.bipush (-2), 2) := by decide +kernel
theorem dX6_limit_12 : decode cX6_limit 12 = .ok (.ireturn, 1) := by decide +kernel
theorem dX6_limit_13 : decode cX6_limit 13 = .ok (.aload_n 0, 1) := by decide +kernel
theorem dX6_limit_14 : decode cX6_limit 14 = .ok (.getfield 22, 3) := by decide +kernel
theorem dX6_limit_17 : decode cX6_limit 17 = .ok (.istore_n 2, 1) := by decide +kernel
theorem dX6_limit_18 : decode cX6_limit 18 = .ok (.aload_n 0, 1) := by decide +kernel
theorem dX6_limit_19 : decode cX6_limit 19 = .ok (.iload_n 1, 1) := by decide +kernel
theorem dX6_limit_20 : decode cX6_limit 20 = .ok (.putfield 22, 3) := by decide +kernel
theorem dX6_limit_23 : decode cX6_limit 23 = .ok (.iload_n 2, 1) := by decide +kernel
theorem dX6_limit_24 : decode cX6_limit 24 = .ok (.ireturn, 1) := by decide +kernel
theorem dX6_wayOf_0 : decode cX6_wayOf 0 = .ok (.iload_n 1, 1) := by decide +kernel
theorem dX6_wayOf_1 : decode cX6_wayOf 1 = .ok (.iload_n 0, 1) := by decide +kernel
theorem dX6_wayOf_2 : decode cX6_wayOf 2 = .ok (.isub, 1) := by decide +kernel
theorem dX6_wayOf_3 : decode cX6_wayOf 3 = .ok (.sipush 10800, 3) := by decide +kernel
theorem dX6_wayOf_6 : decode cX6_wayOf 6 = .ok (.iadd, 1) := by decide +kernel
theorem dX6_wayOf_7 : decode cX6_wayOf 7 = .ok (.invokestatic 83, 3) := by decide +kernel
theorem dX6_wayOf_10 : decode cX6_wayOf 10 = .ok (.sipush 10800, 3) := by decide +kernel
theorem dX6_wayOf_13 : decode cX6_wayOf 13 = .ok (.isub, 1) := by decide +kernel
theorem dX6_wayOf_14 : decode cX6_wayOf 14 = .ok (.ireturn, 1) := by decide +kernel
theorem dX6_way_0 : decode cX6_way 0 = .ok (.iload_n 1, 1) := by decide +kernel
theorem dX6_way_1 : decode cX6_way 1 = .ok (.invokestatic 73, 3) := by decide +kernel
theorem dX6_way_4 : decode cX6_way 4 = .ok (.ifCond .eq 22, 3) := by decide +kernel
theorem dX6_way_7 : decode cX6_way 7 = .ok (.iload_n 2, 1) := by decide +kernel
theorem dX6_way_8 : decode cX6_way 8 = .ok (.invokestatic 73, 3) := by decide +kernel
theorem dX6_way_11 : decode cX6_way 11 = .ok (.ifCond .eq 15, 3) := by decide +kernel
theorem dX6_way_14 : decode cX6_way 14 = .ok (.iload_n 1, 1) := by decide +kernel
theorem dX6_way_15 : decode cX6_way 15 = .ok (.iload_n 2, 1) := by decide +kernel
theorem dX6_way_16 : decode cX6_way 16 = .ok (.invokestatic 96, 3) := by decide +kernel
theorem dX6_way_19 : decode cX6_way 19 = .ok (.sipush 10800, 3) := by decide +kernel
theorem dX6_way_22 : decode cX6_way 22 = .ok (.iadd, 1) := by decide +kernel
theorem dX6_way_23 : decode cX6_way 23 = .ok (.goto 5, 3) := by decide +kernel
theorem dX6_way_26 : decode cX6_way 26 = .ok (.bipush (-2), 2) := by decide +kernel
theorem dX6_way_28 : decode cX6_way 28 = .ok (.ireturn, 1) := by decide +kernel
theorem dX6_list_0 : decode cX6_list 0 = .ok (.aload_n 0, 1) := by decide +kernel
theorem dX6_list_1 : decode cX6_list 1 = .ok (.getfield 66, 3) := by decide +kernel
theorem dX6_list_4 : decode cX6_list 4 = .ok (.bipush 6, 2) := by decide +kernel
theorem dX6_list_6 : decode cX6_list 6 = .ok (.if_icmp .ne 6, 3) := by decide +kernel
theorem dX6_list_9 : decode cX6_list 9 = .ok (.bipush (-4), 2) := by decide +kernel
theorem dX6_list_11 : decode cX6_list 11 = .ok (.ireturn, 1) := by decide +kernel
theorem dX6_list_12 : decode cX6_list 12 = .ok (.aload_n 0, 1) := by decide +kernel
theorem dX6_list_13 : decode cX6_list 13 = .ok (.getfield 26, 3) := by decide +kernel
theorem dX6_list_16 : decode cX6_list 16 = .ok (.aload_n 0, 1) := by decide +kernel
theorem dX6_list_17 : decode cX6_list 17 = .ok (.getfield 66, 3) := by decide +kernel
theorem dX6_list_20 : decode cX6_list 20 = .ok (.iconst 0, 1) := by decide +kernel
theorem dX6_list_21 : decode cX6_list 21 = .ok (.iastore, 1) := by decide +kernel
theorem dX6_list_22 : decode cX6_list 22 = .ok (.aload_n 0, 1) := by decide +kernel
theorem dX6_list_23 : decode cX6_list 23 = .ok (.dup, 1) := by decide +kernel
theorem dX6_list_24 : decode cX6_list 24 = .ok (.getfield 66, 3) := by decide +kernel
theorem dX6_list_27 : decode cX6_list 27 = .ok (.iconst 1, 1) := by decide +kernel
theorem dX6_list_28 : decode cX6_list 28 = .ok (.iadd, 1) := by decide +kernel
theorem dX6_list_29 : decode cX6_list 29 = .ok (.putfield 66, 3) := by decide +kernel
theorem dX6_list_32 : decode cX6_list 32 = .ok (.aload_n 0, 1) := by decide +kernel
theorem dX6_list_33 : decode cX6_list 33 = .ok (.getfield 66, 3) := by decide +kernel
theorem dX6_list_36 : decode cX6_list 36 = .ok (.iconst 1, 1) := by decide +kernel
theorem dX6_list_37 : decode cX6_list 37 = .ok (.isub, 1) := by decide +kernel
theorem dX6_list_38 : decode cX6_list 38 = .ok (.ireturn, 1) := by decide +kernel
theorem dX6_line_0 : decode cX6_line 0 = .ok (.aload_n 0, 1) := by decide +kernel
theorem dX6_line_1 : decode cX6_line 1 = .ok (.iload_n 1, 1) := by decide +kernel
theorem dX6_line_2 : decode cX6_line 2 = .ok (.invokevirtual 69, 3) := by decide +kernel
theorem dX6_line_5 : decode cX6_line 5 = .ok (.ifCond .ne 5, 3) := by decide +kernel
theorem dX6_line_8 : decode cX6_line 8 = .ok (.iconst (-1), 1) := by decide +kernel
theorem dX6_line_9 : decode cX6_line 9 = .ok (.ireturn, 1) := by decide +kernel
theorem dX6_line_10 : decode cX6_line 10 = .ok (.iload_n 2, 1) := by decide +kernel
theorem dX6_line_11 : decode cX6_line 11 = .ok (.invokestatic 73, 3) := by decide +kernel
theorem dX6_line_14 : decode cX6_line 14 = .ok (.ifCond .eq 10, 3) := by decide +kernel
theorem dX6_line_17 : decode cX6_line 17 = .ok (.iload_n 3, 1) := by decide +kernel
theorem dX6_line_18 : decode cX6_line 18 = .ok (.invokestatic 76, 3) := by decide +kernel
theorem dX6_line_21 : decode cX6_line 21 = .ok (.ifCond .ne 6, 3) := by decide +kernel
theorem dX6_line_24 : decode cX6_line 24 = .ok (.bipush (-2), 2) := by decide +kernel
theorem dX6_line_26 : decode cX6_line 26 = .ok (.ireturn, 1) := by decide +kernel
theorem dX6_line_27 : decode cX6_line 27 = .ok (.aload_n 0, 1) := by decide +kernel
theorem dX6_line_28 : decode cX6_line 28 = .ok (.getfield 26, 3) := by decide +kernel
theorem dX6_line_31 : decode cX6_line 31 = .ok (.iload_n 1, 1) := by decide +kernel
theorem dX6_line_32 : decode cX6_line 32 = .ok (.iaload, 1) := by decide +kernel
theorem dX6_line_33 : decode cX6_line 33 = .ok (.bipush 8, 2) := by decide +kernel
theorem dX6_line_35 : decode cX6_line 35 = .ok (.if_icmp .ne 6, 3) := by decide +kernel
theorem dX6_line_38 : decode cX6_line 38 = .ok (.bipush (-4), 2) := by decide +kernel
theorem dX6_line_40 : decode cX6_line 40 = .ok (.ireturn, 1) := by decide +kernel
theorem dX6_line_41 : decode cX6_line 41 = .ok (.aload_n 0, 1) := by decide +kernel
theorem dX6_line_42 : decode cX6_line 42 = .ok (.getfield 29, 3) := by decide +kernel
theorem dX6_line_45 : decode cX6_line 45 = .ok (.bipush 8, 2) := by decide +kernel
theorem dX6_line_47 : decode cX6_line 47 = .ok (.iload_n 1, 1) := by decide +kernel
theorem dX6_line_48 : decode cX6_line 48 = .ok (.imul, 1) := by decide +kernel
theorem dX6_line_49 : decode cX6_line 49 = .ok (.aload_n 0, 1) := by decide +kernel
theorem dX6_line_50 : decode cX6_line 50 = .ok (.getfield 26, 3) := by decide +kernel
theorem dX6_line_53 : decode cX6_line 53 = .ok (.iload_n 1, 1) := by decide +kernel
theorem dX6_line_54 : decode cX6_line 54 = .ok (.iaload, 1) := by decide +kernel
theorem dX6_line_55 : decode cX6_line 55 = .ok (.iadd, 1) := by decide +kernel
theorem dX6_line_56 : decode cX6_line 56 = .ok (.iload_n 2, 1) := by decide +kernel
theorem dX6_line_57 : decode cX6_line 57 = .ok (.iastore, 1) := by decide +kernel
theorem dX6_line_58 : decode cX6_line 58 = .ok (.aload_n 0, 1) := by decide +kernel
theorem dX6_line_59 : decode cX6_line 59 = .ok (.getfield 32, 3) := by decide +kernel
theorem dX6_line_62 : decode cX6_line 62 = .ok (.bipush 8, 2) := by decide +kernel
theorem dX6_line_64 : decode cX6_line 64 = .ok (.iload_n 1, 1) := by decide +kernel
theorem dX6_line_65 : decode cX6_line 65 = .ok (.imul, 1) := by decide +kernel
theorem dX6_line_66 : decode cX6_line 66 = .ok (.aload_n 0, 1) := by decide +kernel
theorem dX6_line_67 : decode cX6_line 67 = .ok (.getfield 26, 3) := by decide +kernel
theorem dX6_line_70 : decode cX6_line 70 = .ok (.iload_n 1, 1) := by decide +kernel
theorem dX6_line_71 : decode cX6_line 71 = .ok (.iaload, 1) := by decide +kernel
theorem dX6_line_72 : decode cX6_line 72 = .ok (.iadd, 1) := by decide +kernel
theorem dX6_line_73 : decode cX6_line 73 = .ok (.iload_n 3, 1) := by decide +kernel
theorem dX6_line_74 : decode cX6_line 74 = .ok (.iastore, 1) := by decide +kernel
theorem dX6_line_75 : decode cX6_line 75 = .ok (.aload_n 0, 1) := by decide +kernel
theorem dX6_line_76 : decode cX6_line 76 = .ok (.getfield 26, 3) := by decide +kernel
theorem dX6_line_79 : decode cX6_line 79 = .ok (.iload_n 1, 1) := by decide +kernel
theorem dX6_line_80 : decode cX6_line 80 = .ok (.dup2, 1) := by decide +kernel
theorem dX6_line_81 : decode cX6_line 81 = .ok (.iaload, 1) := by decide +kernel
theorem dX6_line_82 : decode cX6_line 82 = .ok (.iconst 1, 1) := by decide +kernel
theorem dX6_line_83 : decode cX6_line 83 = .ok (.iadd, 1) := by decide +kernel
theorem dX6_line_84 : decode cX6_line 84 = .ok (.iastore, 1) := by decide +kernel
theorem dX6_line_85 : decode cX6_line 85 = .ok (.aload_n 0, 1) := by decide +kernel
theorem dX6_line_86 : decode cX6_line 86 = .ok (.getfield 26, 3) := by decide +kernel
theorem dX6_line_89 : decode cX6_line 89 = .ok (.iload_n 1, 1) := by decide +kernel
theorem dX6_line_90 : decode cX6_line 90 = .ok (.iaload, 1) := by decide +kernel
theorem dX6_line_91 : decode cX6_line 91 = .ok (.iconst 1, 1) := by decide +kernel
theorem dX6_line_92 : decode cX6_line 92 = .ok (.isub, 1) := by decide +kernel
theorem dX6_line_93 : decode cX6_line 93 = .ok (.ireturn, 1) := by decide +kernel
theorem dX6_written_0 : decode cX6_written 0 = .ok (.aload_n 0, 1) := by decide +kernel
theorem dX6_written_1 : decode cX6_written 1 = .ok (.iload_n 1, 1) := by decide +kernel
theorem dX6_written_2 : decode cX6_written 2 = .ok (.iload_n 2, 1) := by decide +kernel
theorem dX6_written_3 : decode cX6_written 3 = .ok (.invokevirtual 99, 3) := by decide +kernel
theorem dX6_written_6 : decode cX6_written 6 = .ok (.ifCond .ne 5, 3) := by decide +kernel
theorem dX6_written_9 : decode cX6_written 9 = .ok (.iconst (-1), 1) := by decide +kernel
theorem dX6_written_10 : decode cX6_written 10 = .ok (.ireturn, 1) := by decide +kernel
theorem dX6_written_11 : decode cX6_written 11 = .ok (.iload_n 3, 1) := by decide +kernel
theorem dX6_written_12 : decode cX6_written 12 = .ok (.ifCond .ne 17, 3) := by decide +kernel
theorem dX6_written_15 : decode cX6_written 15 = .ok (.aload_n 0, 1) := by decide +kernel
theorem dX6_written_16 : decode cX6_written 16 = .ok (.getfield 29, 3) := by decide +kernel
theorem dX6_written_19 : decode cX6_written 19 = .ok (.bipush 8, 2) := by decide +kernel
theorem dX6_written_21 : decode cX6_written 21 = .ok (.iload_n 1, 1) := by decide +kernel
theorem dX6_written_22 : decode cX6_written 22 = .ok (.imul, 1) := by decide +kernel
theorem dX6_written_23 : decode cX6_written 23 = .ok (.iload_n 2, 1) := by decide +kernel
theorem dX6_written_24 : decode cX6_written 24 = .ok (.iadd, 1) := by decide +kernel
theorem dX6_written_25 : decode cX6_written 25 = .ok (.iaload, 1) := by decide +kernel
theorem dX6_written_26 : decode cX6_written 26 = .ok (.goto 28, 3) := by decide +kernel
theorem dX6_written_29 : decode cX6_written 29 = .ok (.iload_n 3, 1) := by decide +kernel
theorem dX6_written_30 : decode cX6_written 30 = .ok (.iconst 1, 1) := by decide +kernel
theorem dX6_written_31 : decode cX6_written 31 = .ok (.if_icmp .ne 21, 3) := by decide +kernel
theorem dX6_written_34 : decode cX6_written 34 = .ok (.aload_n 0, 1) := by decide +kernel
theorem dX6_written_35 : decode cX6_written 35 = .ok (.getfield 32, 3) := by decide +kernel
theorem dX6_written_38 : decode cX6_written 38 = .ok (.bipush 8, 2) := by decide +kernel
theorem dX6_written_40 : decode cX6_written 40 = .ok (.iload_n 1, 1) := by decide +kernel
theorem dX6_written_41 : decode cX6_written 41 = .ok (.imul, 1) := by decide +kernel
theorem dX6_written_42 : decode cX6_written 42 = .ok (.iload_n 2, 1) := by decide +kernel
theorem dX6_written_43 : decode cX6_written 43 = .ok (.iadd, 1) := by decide +kernel
theorem dX6_written_44 : decode cX6_written 44 = .ok (.iaload, 1) := by decide +kernel
theorem dX6_written_45 : decode cX6_written 45 = .ok (.sipush 5400, 3) := by decide +kernel
theorem dX6_written_48 : decode cX6_written 48 = .ok (.iadd, 1) := by decide +kernel
theorem dX6_written_49 : decode cX6_written 49 = .ok (.goto 5, 3) := by decide +kernel
theorem dX6_written_52 : decode cX6_written 52 = .ok (.bipush (-2), 2) := by decide +kernel
theorem dX6_written_54 : decode cX6_written 54 = .ok (.ireturn, 1) := by decide +kernel
theorem dX6_mend_0 : decode cX6_mend 0 = .ok (.aload_n 0, 1) := by decide +kernel
theorem dX6_mend_1 : decode cX6_mend 1 = .ok (.iload_n 1, 1) := by decide +kernel
theorem dX6_mend_2 : decode cX6_mend 2 = .ok (.iload_n 2, 1) := by decide +kernel
theorem dX6_mend_3 : decode cX6_mend 3 = .ok (.invokevirtual 99, 3) := by decide +kernel
theorem dX6_mend_6 : decode cX6_mend 6 = .ok (.ifCond .ne 5, 3) := by decide +kernel
theorem dX6_mend_9 : decode cX6_mend 9 = .ok (.iconst (-1), 1) := by decide +kernel
theorem dX6_mend_10 : decode cX6_mend 10 = .ok (.ireturn, 1) := by decide +kernel
theorem dX6_mend_11 : decode cX6_mend 11 = .ok (.iload_n 3, 1) := by decide +kernel
theorem dX6_mend_12 : decode cX6_mend 12 = .ok (.invokestatic 73, 3) := by decide +kernel
theorem dX6_mend_15 : decode cX6_mend 15 = .ok (.ifCond .eq 11, 3) := by decide +kernel
theorem dX6_mend_18 : decode cX6_mend 18 = .ok (.iload 4, 2) := by decide +kernel
theorem dX6_mend_20 : decode cX6_mend 20 = .ok (.invokestatic 76, 3) := by decide +kernel
theorem dX6_mend_23 : decode cX6_mend 23 = .ok (.ifCond .ne 6, 3) := by decide +kernel
theorem dX6_mend_26 : decode cX6_mend 26 = .ok (.bipush (-2), 2) := by decide +kernel
theorem dX6_mend_28 : decode cX6_mend 28 = .ok (.ireturn, 1) := by decide +kernel
theorem dX6_mend_29 : decode cX6_mend 29 = .ok (.aload_n 0, 1) := by decide +kernel
theorem dX6_mend_30 : decode cX6_mend 30 = .ok (.getfield 29, 3) := by decide +kernel
theorem dX6_mend_33 : decode cX6_mend 33 = .ok (.bipush 8, 2) := by decide +kernel
theorem dX6_mend_35 : decode cX6_mend 35 = .ok (.iload_n 1, 1) := by decide +kernel
theorem dX6_mend_36 : decode cX6_mend 36 = .ok (.imul, 1) := by decide +kernel
theorem dX6_mend_37 : decode cX6_mend 37 = .ok (.iload_n 2, 1) := by decide +kernel
theorem dX6_mend_38 : decode cX6_mend 38 = .ok (.iadd, 1) := by decide +kernel
theorem dX6_mend_39 : decode cX6_mend 39 = .ok (.iaload, 1) := by decide +kernel
theorem dX6_mend_40 : decode cX6_mend 40 = .ok (.istore 5, 2) := by decide +kernel
theorem dX6_mend_42 : decode cX6_mend 42 = .ok (.aload_n 0, 1) := by decide +kernel
theorem dX6_mend_43 : decode cX6_mend 43 = .ok (.getfield 29, 3) := by decide +kernel
theorem dX6_mend_46 : decode cX6_mend 46 = .ok (.bipush 8, 2) := by decide +kernel
theorem dX6_mend_48 : decode cX6_mend 48 = .ok (.iload_n 1, 1) := by decide +kernel
theorem dX6_mend_49 : decode cX6_mend 49 = .ok (.imul, 1) := by decide +kernel
theorem dX6_mend_50 : decode cX6_mend 50 = .ok (.iload_n 2, 1) := by decide +kernel
theorem dX6_mend_51 : decode cX6_mend 51 = .ok (.iadd, 1) := by decide +kernel
theorem dX6_mend_52 : decode cX6_mend 52 = .ok (.iload_n 3, 1) := by decide +kernel
theorem dX6_mend_53 : decode cX6_mend 53 = .ok (.iastore, 1) := by decide +kernel
theorem dX6_mend_54 : decode cX6_mend 54 = .ok (.aload_n 0, 1) := by decide +kernel
theorem dX6_mend_55 : decode cX6_mend 55 = .ok (.getfield 32, 3) := by decide +kernel
theorem dX6_mend_58 : decode cX6_mend 58 = .ok (.bipush 8, 2) := by decide +kernel
theorem dX6_mend_60 : decode cX6_mend 60 = .ok (.iload_n 1, 1) := by decide +kernel
theorem dX6_mend_61 : decode cX6_mend 61 = .ok (.imul, 1) := by decide +kernel
theorem dX6_mend_62 : decode cX6_mend 62 = .ok (.iload_n 2, 1) := by decide +kernel
theorem dX6_mend_63 : decode cX6_mend 63 = .ok (.iadd, 1) := by decide +kernel
theorem dX6_mend_64 : decode cX6_mend 64 = .ok (.iload 4, 2) := by decide +kernel
theorem dX6_mend_66 : decode cX6_mend 66 = .ok (.iastore, 1) := by decide +kernel
theorem dX6_mend_67 : decode cX6_mend 67 = .ok (.iload 5, 2) := by decide +kernel
theorem dX6_mend_69 : decode cX6_mend 69 = .ok (.ireturn, 1) := by decide +kernel
theorem dX6_round__0 : decode cX6_round_ 0 = .ok (.aload_n 0, 1) := by decide +kernel
theorem dX6_round__1 : decode cX6_round_ 1 = .ok (.iload_n 1, 1) := by decide +kernel
theorem dX6_round__2 : decode cX6_round_ 2 = .ok (.invokevirtual 69, 3) := by decide +kernel
theorem dX6_round__5 : decode cX6_round_ 5 = .ok (.ifCond .ne 5, 3) := by decide +kernel
theorem dX6_round__8 : decode cX6_round_ 8 = .ok (.iconst (-1), 1) := by decide +kernel
theorem dX6_round__9 : decode cX6_round_ 9 = .ok (.ireturn, 1) := by decide +kernel
theorem dX6_round__10 : decode cX6_round_ 10 = .ok (.iload_n 2, 1) := by decide +kernel
theorem dX6_round__11 : decode cX6_round_ 11 = .ok (.iconst 2, 1) := by decide +kernel
theorem dX6_round__12 : decode cX6_round_ 12 = .ok (.sipush 1800, 3) := by decide +kernel
theorem dX6_round__15 : decode cX6_round_ 15 = .ok (.invokestatic 59, 3) := by decide +kernel
theorem dX6_round__18 : decode cX6_round_ 18 = .ok (.ifCond .ne 6, 3) := by decide +kernel
theorem dX6_round__21 : decode cX6_round_ 21 = .ok (.bipush (-2), 2) := by decide +kernel
theorem dX6_round__23 : decode cX6_round_ 23 = .ok (.ireturn, 1) := by decide +kernel
theorem dX6_round__24 : decode cX6_round_ 24 = .ok (.iconst 0, 1) := by decide +kernel
theorem dX6_round__25 : decode cX6_round_ 25 = .ok (.istore_n 3, 1) := by decide +kernel
theorem dX6_round__26 : decode cX6_round_ 26 = .ok (.iconst 0, 1) := by decide +kernel
theorem dX6_round__27 : decode cX6_round_ 27 = .ok (.istore 4, 2) := by decide +kernel
theorem dX6_round__29 : decode cX6_round_ 29 = .ok (.iload 4, 2) := by decide +kernel
theorem dX6_round__31 : decode cX6_round_ 31 = .ok (.aload_n 0, 1) := by decide +kernel
theorem dX6_round__32 : decode cX6_round_ 32 = .ok (.getfield 26, 3) := by decide +kernel
theorem dX6_round__35 : decode cX6_round_ 35 = .ok (.iload_n 1, 1) := by decide +kernel
theorem dX6_round__36 : decode cX6_round_ 36 = .ok (.iaload, 1) := by decide +kernel
theorem dX6_round__37 : decode cX6_round_ 37 = .ok (.if_icmp .ge 34, 3) := by decide +kernel
theorem dX6_round__40 : decode cX6_round_ 40 = .ok (.iload_n 3, 1) := by decide +kernel
theorem dX6_round__41 : decode cX6_round_ 41 = .ok (.aload_n 0, 1) := by decide +kernel
theorem dX6_round__42 : decode cX6_round_ 42 = .ok (.getfield 29, 3) := by decide +kernel
theorem dX6_round__45 : decode cX6_round_ 45 = .ok (.bipush 8, 2) := by decide +kernel
theorem dX6_round__47 : decode cX6_round_ 47 = .ok (.iload_n 1, 1) := by decide +kernel
theorem dX6_round__48 : decode cX6_round_ 48 = .ok (.imul, 1) := by decide +kernel
theorem dX6_round__49 : decode cX6_round_ 49 = .ok (.iload 4, 2) := by decide +kernel
theorem dX6_round__51 : decode cX6_round_ 51 = .ok (.iadd, 1) := by decide +kernel
theorem dX6_round__52 : decode cX6_round_ 52 = .ok (.iaload, 1) := by decide +kernel
theorem dX6_round__53 : decode cX6_round_ 53 = .ok (.iload_n 2, 1) := by decide +kernel
theorem dX6_round__54 : decode cX6_round_ 54 = .ok (.irem, 1) := by decide +kernel
theorem dX6_round__55 : decode cX6_round_ 55 = .ok (.ifCond .ne 7, 3) := by decide +kernel
theorem dX6_round__58 : decode cX6_round_ 58 = .ok (.iconst 1, 1) := by decide +kernel
theorem dX6_round__59 : decode cX6_round_ 59 = .ok (.goto 4, 3) := by decide +kernel
theorem dX6_round__62 : decode cX6_round_ 62 = .ok (.iconst 0, 1) := by decide +kernel
theorem dX6_round__63 : decode cX6_round_ 63 = .ok (.iadd, 1) := by decide +kernel
theorem dX6_round__64 : decode cX6_round_ 64 = .ok (.istore_n 3, 1) := by decide +kernel
theorem dX6_round__65 : decode cX6_round_ 65 = .ok (.iinc 4 1, 3) := by decide +kernel
theorem dX6_round__68 : decode cX6_round_ 68 = .ok (.goto (-39), 3) := by decide +kernel
theorem dX6_round__71 : decode cX6_round_ 71 = .ok (.iload_n 3, 1) := by decide +kernel
theorem dX6_round__72 : decode cX6_round_ 72 = .ok (.ireturn, 1) := by decide +kernel
theorem dX6_tries_0 : decode cX6_tries 0 = .ok (.iload_n 2, 1) := by decide +kernel
theorem dX6_tries_1 : decode cX6_tries 1 = .ok (.invokestatic 103, 3) := by decide +kernel
theorem dX6_tries_4 : decode cX6_tries 4 = .ok (.iload_n 3, 1) := by decide +kernel
theorem dX6_tries_5 : decode cX6_tries 5 = .ok (.invokestatic 103, 3) := by decide +kernel
theorem dX6_tries_8 : decode cX6_tries 8 = .ok (.iadd, 1) := by decide +kernel
theorem dX6_tries_9 : decode cX6_tries 9 = .ok (.iload 4, 2) := by decide +kernel
theorem dX6_tries_11 : decode cX6_tries 11 = .ok (.iadd, 1) := by decide +kernel
theorem dX6_tries_12 : decode cX6_tries 12 = .ok (.istore 5, 2) := by decide +kernel
theorem dX6_tries_14 : decode cX6_tries 14 = .ok (.iload_n 2, 1) := by decide +kernel
theorem dX6_tries_15 : decode cX6_tries 15 = .ok (.invokestatic 103, 3) := by decide +kernel
theorem dX6_tries_18 : decode cX6_tries 18 = .ok (.bipush 30, 2) := by decide +kernel
theorem dX6_tries_20 : decode cX6_tries 20 = .ok (.if_icmp .gt 49, 3) := by decide +kernel
theorem dX6_tries_23 : decode cX6_tries 23 = .ok (.iload_n 3, 1) := by decide +kernel
theorem dX6_tries_24 : decode cX6_tries 24 = .ok (.invokestatic 103, 3) := by decide +kernel
theorem dX6_tries_27 : decode cX6_tries 27 = .ok (.bipush 30, 2) := by decide +kernel
theorem dX6_tries_29 : decode cX6_tries 29 = .ok (.if_icmp .gt 40, 3) := by decide +kernel
theorem dX6_tries_32 : decode cX6_tries 32 = .ok (.iload 5, 2) := by decide +kernel
theorem dX6_tries_34 : decode cX6_tries 34 = .ok (.aload_n 0, 1) := by decide +kernel
theorem dX6_tries_35 : decode cX6_tries 35 = .ok (.getfield 106, 3) := by decide +kernel
theorem dX6_tries_38 : decode cX6_tries 38 = .ok (.if_icmp .lt 20, 3) := by decide +kernel
theorem dX6_tries_41 : decode cX6_tries 41 = .ok (.iload 5, 2) := by decide +kernel
theorem dX6_tries_43 : decode cX6_tries 43 = .ok (.aload_n 0, 1) := by decide +kernel
theorem dX6_tries_44 : decode cX6_tries 44 = .ok (.getfield 106, 3) := by decide +kernel
theorem dX6_tries_47 : decode cX6_tries 47 = .ok (.if_icmp .ne 22, 3) := by decide +kernel
theorem dX6_tries_50 : decode cX6_tries 50 = .ok (.iload_n 1, 1) := by decide +kernel
theorem dX6_tries_51 : decode cX6_tries 51 = .ok (.aload_n 0, 1) := by decide +kernel
theorem dX6_tries_52 : decode cX6_tries 52 = .ok (.getfield 109, 3) := by decide +kernel
theorem dX6_tries_55 : decode cX6_tries 55 = .ok (.if_icmp .ge 14, 3) := by decide +kernel
theorem dX6_tries_58 : decode cX6_tries 58 = .ok (.aload_n 0, 1) := by decide +kernel
theorem dX6_tries_59 : decode cX6_tries 59 = .ok (.iload_n 1, 1) := by decide +kernel
theorem dX6_tries_60 : decode cX6_tries 60 = .ok (.putfield 109, 3) := by decide +kernel
theorem dX6_tries_63 : decode cX6_tries 63 = .ok (.aload_n 0, 1) := by decide +kernel
theorem dX6_tries_64 : decode cX6_tries 64 = .ok (.iload 5, 2) := by decide +kernel
theorem dX6_tries_66 : decode cX6_tries 66 = .ok (.putfield 106, 3) := by decide +kernel
theorem dX6_tries_69 : decode cX6_tries 69 = .ok (.return_, 1) := by decide +kernel
theorem dX6_face_0 : decode cX6_face 0 = .ok (.aload_n 0, 1) := by decide +kernel
theorem dX6_face_1 : decode cX6_face 1 = .ok (.iload_n 3, 1) := by decide +kernel
theorem dX6_face_2 : decode cX6_face 2 = .ok (.iload 4, 2) := by decide +kernel
theorem dX6_face_4 : decode cX6_face 4 = .ok (.invokevirtual 93, 3) := by decide +kernel
theorem dX6_face_7 : decode cX6_face 7 = .ok (.iload 5, 2) := by decide +kernel
theorem dX6_face_9 : decode cX6_face 9 = .ok (.iadd, 1) := by decide +kernel
theorem dX6_face_10 : decode cX6_face 10 = .ok (.invokestatic 83, 3) := by decide +kernel
theorem dX6_face_13 : decode cX6_face 13 = .ok (.istore 6, 2) := by decide +kernel
theorem dX6_face_15 : decode cX6_face 15 = .ok (.iload 6, 2) := by decide +kernel
theorem dX6_face_17 : decode cX6_face 17 = .ok (.aload_n 0, 1) := by decide +kernel
theorem dX6_face_18 : decode cX6_face 18 = .ok (.getfield 29, 3) := by decide +kernel
theorem dX6_face_21 : decode cX6_face 21 = .ok (.bipush 8, 2) := by decide +kernel
theorem dX6_face_23 : decode cX6_face 23 = .ok (.iload_n 1, 1) := by decide +kernel
theorem dX6_face_24 : decode cX6_face 24 = .ok (.imul, 1) := by decide +kernel
theorem dX6_face_25 : decode cX6_face 25 = .ok (.iload_n 2, 1) := by decide +kernel
theorem dX6_face_26 : decode cX6_face 26 = .ok (.iadd, 1) := by decide +kernel
theorem dX6_face_27 : decode cX6_face 27 = .ok (.iaload, 1) := by decide +kernel
theorem dX6_face_28 : decode cX6_face 28 = .ok (.invokestatic 96, 3) := by decide +kernel
theorem dX6_face_31 : decode cX6_face 31 = .ok (.istore 7, 2) := by decide +kernel
theorem dX6_face_33 : decode cX6_face 33 = .ok (.aload_n 0, 1) := by decide +kernel
theorem dX6_face_34 : decode cX6_face 34 = .ok (.getfield 32, 3) := by decide +kernel
theorem dX6_face_37 : decode cX6_face 37 = .ok (.bipush 8, 2) := by decide +kernel
theorem dX6_face_39 : decode cX6_face 39 = .ok (.iload_n 1, 1) := by decide +kernel
theorem dX6_face_40 : decode cX6_face 40 = .ok (.imul, 1) := by decide +kernel
theorem dX6_face_41 : decode cX6_face 41 = .ok (.iload_n 2, 1) := by decide +kernel
theorem dX6_face_42 : decode cX6_face 42 = .ok (.iadd, 1) := by decide +kernel
theorem dX6_face_43 : decode cX6_face 43 = .ok (.iaload, 1) := by decide +kernel
theorem dX6_face_44 : decode cX6_face 44 = .ok (.istore 8, 2) := by decide +kernel
theorem dX6_face_46 : decode cX6_face 46 = .ok (.iload 8, 2) := by decide +kernel
theorem dX6_face_48 : decode cX6_face 48 = .ok (.aload_n 0, 1) := by decide +kernel
theorem dX6_face_49 : decode cX6_face 49 = .ok (.getfield 13, 3) := by decide +kernel
theorem dX6_face_52 : decode cX6_face 52 = .ok (.iload_n 3, 1) := by decide +kernel
theorem dX6_face_53 : decode cX6_face 53 = .ok (.iaload, 1) := by decide +kernel
theorem dX6_face_54 : decode cX6_face 54 = .ok (.isub, 1) := by decide +kernel
theorem dX6_face_55 : decode cX6_face 55 = .ok (.istore 9, 2) := by decide +kernel
theorem dX6_face_57 : decode cX6_face 57 = .ok (.aload_n 0, 1) := by decide +kernel
theorem dX6_face_58 : decode cX6_face 58 = .ok (.bipush (-9), 2) := by decide +kernel
theorem dX6_face_60 : decode cX6_face 60 = .ok (.putfield 109, 3) := by decide +kernel
theorem dX6_face_63 : decode cX6_face 63 = .ok (.aload_n 0, 1) := by decide +kernel
theorem dX6_face_64 : decode cX6_face 64 = .ok (.ldc 112, 2) := by decide +kernel
theorem dX6_face_66 : decode cX6_face 66 = .ok (.putfield 106, 3) := by decide +kernel
theorem dX6_face_69 : decode cX6_face 69 = .ok (.aload_n 0, 1) := by decide +kernel
theorem dX6_face_70 : decode cX6_face 70 = .ok (.iconst 0, 1) := by decide +kernel
theorem dX6_face_71 : decode cX6_face 71 = .ok (.iload 7, 2) := by decide +kernel
theorem dX6_face_73 : decode cX6_face 73 = .ok (.iload 9, 2) := by decide +kernel
theorem dX6_face_75 : decode cX6_face 75 = .ok (.iconst 0, 1) := by decide +kernel
theorem dX6_face_76 : decode cX6_face 76 = .ok (.invokevirtual 113, 3) := by decide +kernel
theorem dX6_face_79 : decode cX6_face 79 = .ok (.aload_n 0, 1) := by decide +kernel
theorem dX6_face_80 : decode cX6_face 80 = .ok (.iconst 1, 1) := by decide +kernel
theorem dX6_face_81 : decode cX6_face 81 = .ok (.iload 7, 2) := by decide +kernel
theorem dX6_face_83 : decode cX6_face 83 = .ok (.iload 8, 2) := by decide +kernel
theorem dX6_face_85 : decode cX6_face 85 = .ok (.aload_n 0, 1) := by decide +kernel
theorem dX6_face_86 : decode cX6_face 86 = .ok (.getfield 13, 3) := by decide +kernel
theorem dX6_face_89 : decode cX6_face 89 = .ok (.iload_n 3, 1) := by decide +kernel
theorem dX6_face_90 : decode cX6_face 90 = .ok (.iaload, 1) := by decide +kernel
theorem dX6_face_91 : decode cX6_face 91 = .ok (.iadd, 1) := by decide +kernel
theorem dX6_face_92 : decode cX6_face 92 = .ok (.bipush 40, 2) := by decide +kernel
theorem dX6_face_94 : decode cX6_face 94 = .ok (.invokevirtual 113, 3) := by decide +kernel
theorem dX6_face_97 : decode cX6_face 97 = .ok (.aload_n 0, 1) := by decide +kernel
theorem dX6_face_98 : decode cX6_face 98 = .ok (.iconst 2, 1) := by decide +kernel
theorem dX6_face_99 : decode cX6_face 99 = .ok (.iload 7, 2) := by decide +kernel
theorem dX6_face_101 : decode cX6_face 101 = .ok (.sipush 1800, 3) := by decide +kernel
theorem dX6_face_104 : decode cX6_face 104 = .ok (.isub, 1) := by decide +kernel
theorem dX6_face_105 : decode cX6_face 105 = .ok (.iload 9, 2) := by decide +kernel
theorem dX6_face_107 : decode cX6_face 107 = .ok (.bipush 50, 2) := by decide +kernel
theorem dX6_face_109 : decode cX6_face 109 = .ok (.invokevirtual 113, 3) := by decide +kernel
theorem dX6_face_112 : decode cX6_face 112 = .ok (.aload_n 0, 1) := by decide +kernel
theorem dX6_face_113 : decode cX6_face 113 = .ok (.iconst 2, 1) := by decide +kernel
theorem dX6_face_114 : decode cX6_face 114 = .ok (.iload 7, 2) := by decide +kernel
theorem dX6_face_116 : decode cX6_face 116 = .ok (.sipush 1800, 3) := by decide +kernel
theorem dX6_face_119 : decode cX6_face 119 = .ok (.iadd, 1) := by decide +kernel
theorem dX6_face_120 : decode cX6_face 120 = .ok (.iload 9, 2) := by decide +kernel
theorem dX6_face_122 : decode cX6_face 122 = .ok (.bipush 50, 2) := by decide +kernel
theorem dX6_face_124 : decode cX6_face 124 = .ok (.invokevirtual 113, 3) := by decide +kernel
theorem dX6_face_127 : decode cX6_face 127 = .ok (.aload_n 0, 1) := by decide +kernel
theorem dX6_face_128 : decode cX6_face 128 = .ok (.iconst 3, 1) := by decide +kernel
theorem dX6_face_129 : decode cX6_face 129 = .ok (.iload 7, 2) := by decide +kernel
theorem dX6_face_131 : decode cX6_face 131 = .ok (.sipush 600, 3) := by decide +kernel
theorem dX6_face_134 : decode cX6_face 134 = .ok (.isub, 1) := by decide +kernel
theorem dX6_face_135 : decode cX6_face 135 = .ok (.iload 9, 2) := by decide +kernel
theorem dX6_face_137 : decode cX6_face 137 = .ok (.bipush 45, 2) := by decide +kernel
theorem dX6_face_139 : decode cX6_face 139 = .ok (.invokevirtual 113, 3) := by decide +kernel
theorem dX6_face_142 : decode cX6_face 142 = .ok (.aload_n 0, 1) := by decide +kernel
theorem dX6_face_143 : decode cX6_face 143 = .ok (.iconst 3, 1) := by decide +kernel
theorem dX6_face_144 : decode cX6_face 144 = .ok (.iload 7, 2) := by decide +kernel
theorem dX6_face_146 : decode cX6_face 146 = .ok (.sipush 600, 3) := by decide +kernel
theorem dX6_face_149 : decode cX6_face 149 = .ok (.iadd, 1) := by decide +kernel
theorem dX6_face_150 : decode cX6_face 150 = .ok (.iload 9, 2) := by decide +kernel
theorem dX6_face_152 : decode cX6_face 152 = .ok (.bipush 45, 2) := by decide +kernel
theorem dX6_face_154 : decode cX6_face 154 = .ok (.invokevirtual 113, 3) := by decide +kernel
theorem dX6_face_157 : decode cX6_face 157 = .ok (.aload_n 0, 1) := by decide +kernel
theorem dX6_face_158 : decode cX6_face 158 = .ok (.iconst 3, 1) := by decide +kernel
theorem dX6_face_159 : decode cX6_face 159 = .ok (.iload 7, 2) := by decide +kernel
theorem dX6_face_161 : decode cX6_face 161 = .ok (.iload 9, 2) := by decide +kernel
theorem dX6_face_163 : decode cX6_face 163 = .ok (.sipush 600, 3) := by decide +kernel
theorem dX6_face_166 : decode cX6_face 166 = .ok (.isub, 1) := by decide +kernel
theorem dX6_face_167 : decode cX6_face 167 = .ok (.bipush 45, 2) := by decide +kernel
theorem dX6_face_169 : decode cX6_face 169 = .ok (.invokevirtual 113, 3) := by decide +kernel
theorem dX6_face_172 : decode cX6_face 172 = .ok (.aload_n 0, 1) := by decide +kernel
theorem dX6_face_173 : decode cX6_face 173 = .ok (.iconst 3, 1) := by decide +kernel
theorem dX6_face_174 : decode cX6_face 174 = .ok (.iload 7, 2) := by decide +kernel
theorem dX6_face_176 : decode cX6_face 176 = .ok (.iload 9, 2) := by decide +kernel
theorem dX6_face_178 : decode cX6_face 178 = .ok (.sipush 600, 3) := by decide +kernel
theorem dX6_face_181 : decode cX6_face 181 = .ok (.iadd, 1) := by decide +kernel
theorem dX6_face_182 : decode cX6_face 182 = .ok (.bipush 45, 2) := by decide +kernel
theorem dX6_face_184 : decode cX6_face 184 = .ok (.invokevirtual 113, 3) := by decide +kernel
theorem dX6_face_187 : decode cX6_face 187 = .ok (.return_, 1) := by decide +kernel
theorem dX6_slip_0 : decode cX6_slip 0 = .ok (.aload_n 0, 1) := by decide +kernel
theorem dX6_slip_1 : decode cX6_slip 1 = .ok (.iload_n 1, 1) := by decide +kernel
theorem dX6_slip_2 : decode cX6_slip 2 = .ok (.iload_n 2, 1) := by decide +kernel
theorem dX6_slip_3 : decode cX6_slip 3 = .ok (.invokevirtual 99, 3) := by decide +kernel
theorem dX6_slip_6 : decode cX6_slip 6 = .ok (.ifCond .eq 11, 3) := by decide +kernel
theorem dX6_slip_9 : decode cX6_slip 9 = .ok (.aload_n 0, 1) := by decide +kernel
theorem dX6_slip_10 : decode cX6_slip 10 = .ok (.iload_n 3, 1) := by decide +kernel
theorem dX6_slip_11 : decode cX6_slip 11 = .ok (.invokevirtual 87, 3) := by decide +kernel
theorem dX6_slip_14 : decode cX6_slip 14 = .ok (.ifCond .ne 5, 3) := by decide +kernel
theorem dX6_slip_17 : decode cX6_slip 17 = .ok (.iconst (-1), 1) := by decide +kernel
theorem dX6_slip_18 : decode cX6_slip 18 = .ok (.ireturn, 1) := by decide +kernel
theorem dX6_slip_19 : decode cX6_slip 19 = .ok (.iload 4, 2) := by decide +kernel
theorem dX6_slip_21 : decode cX6_slip 21 = .ok (.invokestatic 90, 3) := by decide +kernel
theorem dX6_slip_24 : decode cX6_slip 24 = .ok (.ifCond .eq 11, 3) := by decide +kernel
theorem dX6_slip_27 : decode cX6_slip 27 = .ok (.iload 5, 2) := by decide +kernel
theorem dX6_slip_29 : decode cX6_slip 29 = .ok (.invokestatic 117, 3) := by decide +kernel
theorem dX6_slip_32 : decode cX6_slip 32 = .ok (.ifCond .ne 6, 3) := by decide +kernel
theorem dX6_slip_35 : decode cX6_slip 35 = .ok (.bipush (-2), 2) := by decide +kernel
theorem dX6_slip_37 : decode cX6_slip 37 = .ok (.ireturn, 1) := by decide +kernel
theorem dX6_slip_38 : decode cX6_slip 38 = .ok (.aload_n 0, 1) := by decide +kernel
theorem dX6_slip_39 : decode cX6_slip 39 = .ok (.iload_n 1, 1) := by decide +kernel
theorem dX6_slip_40 : decode cX6_slip 40 = .ok (.iload_n 2, 1) := by decide +kernel
theorem dX6_slip_41 : decode cX6_slip 41 = .ok (.iload_n 3, 1) := by decide +kernel
theorem dX6_slip_42 : decode cX6_slip 42 = .ok (.iload 4, 2) := by decide +kernel
theorem dX6_slip_44 : decode cX6_slip 44 = .ok (.iload 5, 2) := by decide +kernel
theorem dX6_slip_46 : decode cX6_slip 46 = .ok (.invokevirtual 120, 3) := by decide +kernel
theorem dX6_slip_49 : decode cX6_slip 49 = .ok (.aload_n 0, 1) := by decide +kernel
theorem dX6_slip_50 : decode cX6_slip 50 = .ok (.getfield 109, 3) := by decide +kernel
theorem dX6_slip_53 : decode cX6_slip 53 = .ok (.ireturn, 1) := by decide +kernel
theorem dX6_cost_0 : decode cX6_cost 0 = .ok (.aload_n 0, 1) := by decide +kernel
theorem dX6_cost_1 : decode cX6_cost 1 = .ok (.iload_n 1, 1) := by decide +kernel
theorem dX6_cost_2 : decode cX6_cost 2 = .ok (.iload_n 2, 1) := by decide +kernel
theorem dX6_cost_3 : decode cX6_cost 3 = .ok (.invokevirtual 99, 3) := by decide +kernel
theorem dX6_cost_6 : decode cX6_cost 6 = .ok (.ifCond .eq 11, 3) := by decide +kernel
theorem dX6_cost_9 : decode cX6_cost 9 = .ok (.aload_n 0, 1) := by decide +kernel
theorem dX6_cost_10 : decode cX6_cost 10 = .ok (.iload_n 3, 1) := by decide +kernel
theorem dX6_cost_11 : decode cX6_cost 11 = .ok (.invokevirtual 87, 3) := by decide +kernel
theorem dX6_cost_14 : decode cX6_cost 14 = .ok (.ifCond .ne 5, 3) := by decide +kernel
theorem dX6_cost_17 : decode cX6_cost 17 = .ok (.iconst (-1), 1) := by decide +kernel
theorem dX6_cost_18 : decode cX6_cost 18 = .ok (.ireturn, 1) := by decide +kernel
theorem dX6_cost_19 : decode cX6_cost 19 = .ok (.iload 4, 2) := by decide +kernel
theorem dX6_cost_21 : decode cX6_cost 21 = .ok (.invokestatic 90, 3) := by decide +kernel
theorem dX6_cost_24 : decode cX6_cost 24 = .ok (.ifCond .eq 11, 3) := by decide +kernel
theorem dX6_cost_27 : decode cX6_cost 27 = .ok (.iload 5, 2) := by decide +kernel
theorem dX6_cost_29 : decode cX6_cost 29 = .ok (.invokestatic 117, 3) := by decide +kernel
theorem dX6_cost_32 : decode cX6_cost 32 = .ok (.ifCond .ne 6, 3) := by decide +kernel
theorem dX6_cost_35 : decode cX6_cost 35 = .ok (.bipush (-2), 2) := by decide +kernel
theorem dX6_cost_37 : decode cX6_cost 37 = .ok (.ireturn, 1) := by decide +kernel
theorem dX6_cost_38 : decode cX6_cost 38 = .ok (.aload_n 0, 1) := by decide +kernel
theorem dX6_cost_39 : decode cX6_cost 39 = .ok (.iload_n 1, 1) := by decide +kernel
theorem dX6_cost_40 : decode cX6_cost 40 = .ok (.iload_n 2, 1) := by decide +kernel
theorem dX6_cost_41 : decode cX6_cost 41 = .ok (.iload_n 3, 1) := by decide +kernel
theorem dX6_cost_42 : decode cX6_cost 42 = .ok (.iload 4, 2) := by decide +kernel
theorem dX6_cost_44 : decode cX6_cost 44 = .ok (.iload 5, 2) := by decide +kernel
theorem dX6_cost_46 : decode cX6_cost 46 = .ok (.invokevirtual 120, 3) := by decide +kernel
theorem dX6_cost_49 : decode cX6_cost 49 = .ok (.aload_n 0, 1) := by decide +kernel
theorem dX6_cost_50 : decode cX6_cost 50 = .ok (.getfield 109, 3) := by decide +kernel
theorem dX6_cost_53 : decode cX6_cost 53 = .ok (.bipush (-9), 2) := by decide +kernel
theorem dX6_cost_55 : decode cX6_cost 55 = .ok (.if_icmp .ne 8, 3) := by decide +kernel
theorem dX6_cost_58 : decode cX6_cost 58 = .ok (.bipush (-9), 2) := by decide +kernel
theorem dX6_cost_60 : decode cX6_cost 60 = .ok (.goto 7, 3) := by decide +kernel
theorem dX6_cost_63 : decode cX6_cost 63 = .ok (.aload_n 0, 1) := by decide +kernel
theorem dX6_cost_64 : decode cX6_cost 64 = .ok (.getfield 106, 3) := by decide +kernel
theorem dX6_cost_67 : decode cX6_cost 67 = .ok (.ireturn, 1) := by decide +kernel
theorem dX6_lay_0 : decode cX6_lay 0 = .ok (.aload_n 0, 1) := by decide +kernel
theorem dX6_lay_1 : decode cX6_lay 1 = .ok (.getfield 26, 3) := by decide +kernel
theorem dX6_lay_4 : decode cX6_lay 4 = .ok (.iload_n 1, 1) := by decide +kernel
theorem dX6_lay_5 : decode cX6_lay 5 = .ok (.iaload, 1) := by decide +kernel
theorem dX6_lay_6 : decode cX6_lay 6 = .ok (.istore 4, 2) := by decide +kernel
theorem dX6_lay_8 : decode cX6_lay 8 = .ok (.iconst 0, 1) := by decide +kernel
theorem dX6_lay_9 : decode cX6_lay 9 = .ok (.istore 5, 2) := by decide +kernel
theorem dX6_lay_11 : decode cX6_lay 11 = .ok (.iload 5, 2) := by decide +kernel
theorem dX6_lay_13 : decode cX6_lay 13 = .ok (.iload 4, 2) := by decide +kernel
theorem dX6_lay_15 : decode cX6_lay 15 = .ok (.if_icmp .ge 122, 3) := by decide +kernel
theorem dX6_lay_18 : decode cX6_lay 18 = .ok (.iconst 0, 1) := by decide +kernel
theorem dX6_lay_19 : decode cX6_lay 19 = .ok (.istore 6, 2) := by decide +kernel
theorem dX6_lay_21 : decode cX6_lay 21 = .ok (.iload 6, 2) := by decide +kernel
theorem dX6_lay_23 : decode cX6_lay 23 = .ok (.aload_n 0, 1) := by decide +kernel
theorem dX6_lay_24 : decode cX6_lay 24 = .ok (.getfield 63, 3) := by decide +kernel
theorem dX6_lay_27 : decode cX6_lay 27 = .ok (.if_icmp .ge 104, 3) := by decide +kernel
theorem dX6_lay_30 : decode cX6_lay 30 = .ok (.aload_n 0, 1) := by decide +kernel
theorem dX6_lay_31 : decode cX6_lay 31 = .ok (.iload_n 1, 1) := by decide +kernel
theorem dX6_lay_32 : decode cX6_lay 32 = .ok (.iload 5, 2) := by decide +kernel
theorem dX6_lay_34 : decode cX6_lay 34 = .ok (.iload 6, 2) := by decide +kernel
theorem dX6_lay_36 : decode cX6_lay 36 = .ok (.iload_n 2, 1) := by decide +kernel
theorem dX6_lay_37 : decode cX6_lay 37 = .ok (.iload_n 3, 1) := by decide +kernel
theorem dX6_lay_38 : decode cX6_lay 38 = .ok (.invokevirtual 120, 3) := by decide +kernel
theorem dX6_lay_41 : decode cX6_lay 41 = .ok (.aload_n 0, 1) := by decide +kernel
theorem dX6_lay_42 : decode cX6_lay 42 = .ok (.getfield 109, 3) := by decide +kernel
theorem dX6_lay_45 : decode cX6_lay 45 = .ok (.bipush (-9), 2) := by decide +kernel
theorem dX6_lay_47 : decode cX6_lay 47 = .ok (.if_icmp .eq 21, 3) := by decide +kernel
theorem dX6_lay_50 : decode cX6_lay 50 = .ok (.aload_n 0, 1) := by decide +kernel
theorem dX6_lay_51 : decode cX6_lay 51 = .ok (.getfield 19, 3) := by decide +kernel
theorem dX6_lay_54 : decode cX6_lay 54 = .ok (.iload 6, 2) := by decide +kernel
theorem dX6_lay_56 : decode cX6_lay 56 = .ok (.iaload, 1) := by decide +kernel
theorem dX6_lay_57 : decode cX6_lay 57 = .ok (.aload_n 0, 1) := by decide +kernel
theorem dX6_lay_58 : decode cX6_lay 58 = .ok (.getfield 22, 3) := by decide +kernel
theorem dX6_lay_61 : decode cX6_lay 61 = .ok (.if_icmp .gt 7, 3) := by decide +kernel
theorem dX6_lay_64 : decode cX6_lay 64 = .ok (.iconst 1, 1) := by decide +kernel
theorem dX6_lay_65 : decode cX6_lay 65 = .ok (.goto 4, 3) := by decide +kernel
theorem dX6_lay_68 : decode cX6_lay 68 = .ok (.iconst 0, 1) := by decide +kernel
theorem dX6_lay_69 : decode cX6_lay 69 = .ok (.istore 7, 2) := by decide +kernel
theorem dX6_lay_71 : decode cX6_lay 71 = .ok (.aload_n 0, 1) := by decide +kernel
theorem dX6_lay_72 : decode cX6_lay 72 = .ok (.getfield 38, 3) := by decide +kernel
theorem dX6_lay_75 : decode cX6_lay 75 = .ok (.bipush 8, 2) := by decide +kernel
theorem dX6_lay_77 : decode cX6_lay 77 = .ok (.iload 5, 2) := by decide +kernel
theorem dX6_lay_79 : decode cX6_lay 79 = .ok (.imul, 1) := by decide +kernel
theorem dX6_lay_80 : decode cX6_lay 80 = .ok (.iload 6, 2) := by decide +kernel
theorem dX6_lay_82 : decode cX6_lay 82 = .ok (.iadd, 1) := by decide +kernel
theorem dX6_lay_83 : decode cX6_lay 83 = .ok (.iload 7, 2) := by decide +kernel
theorem dX6_lay_85 : decode cX6_lay 85 = .ok (.ifCond .eq 10, 3) := by decide +kernel
theorem dX6_lay_88 : decode cX6_lay 88 = .ok (.aload_n 0, 1) := by decide +kernel
theorem dX6_lay_89 : decode cX6_lay 89 = .ok (.getfield 106, 3) := by decide +kernel
theorem dX6_lay_92 : decode cX6_lay 92 = .ok (.goto 5, 3) := by decide +kernel
theorem dX6_lay_95 : decode cX6_lay 95 = .ok (.ldc 112, 2) := by decide +kernel
theorem dX6_lay_97 : decode cX6_lay 97 = .ok (.iastore, 1) := by decide +kernel
theorem dX6_lay_98 : decode cX6_lay 98 = .ok (.aload_n 0, 1) := by decide +kernel
theorem dX6_lay_99 : decode cX6_lay 99 = .ok (.getfield 41, 3) := by decide +kernel
theorem dX6_lay_102 : decode cX6_lay 102 = .ok (.bipush 8, 2) := by decide +kernel
theorem dX6_lay_104 : decode cX6_lay 104 = .ok (.iload 5, 2) := by decide +kernel
theorem dX6_lay_106 : decode cX6_lay 106 = .ok (.imul, 1) := by decide +kernel
theorem dX6_lay_107 : decode cX6_lay 107 = .ok (.iload 6, 2) := by decide +kernel
theorem dX6_lay_109 : decode cX6_lay 109 = .ok (.iadd, 1) := by decide +kernel
theorem dX6_lay_110 : decode cX6_lay 110 = .ok (.iload 7, 2) := by decide +kernel
theorem dX6_lay_112 : decode cX6_lay 112 = .ok (.ifCond .eq 10, 3) := by decide +kernel
theorem dX6_lay_115 : decode cX6_lay 115 = .ok (.aload_n 0, 1) := by decide +kernel
theorem dX6_lay_116 : decode cX6_lay 116 = .ok (.getfield 109, 3) := by decide +kernel
theorem dX6_lay_119 : decode cX6_lay 119 = .ok (.goto 5, 3) := by decide +kernel
theorem dX6_lay_122 : decode cX6_lay 122 = .ok (.bipush (-9), 2) := by decide +kernel
theorem dX6_lay_124 : decode cX6_lay 124 = .ok (.iastore, 1) := by decide +kernel
theorem dX6_lay_125 : decode cX6_lay 125 = .ok (.iinc 6 1, 3) := by decide +kernel
theorem dX6_lay_128 : decode cX6_lay 128 = .ok (.goto (-107), 3) := by decide +kernel
theorem dX6_lay_131 : decode cX6_lay 131 = .ok (.iinc 5 1, 3) := by decide +kernel
theorem dX6_lay_134 : decode cX6_lay 134 = .ok (.goto (-123), 3) := by decide +kernel
theorem dX6_lay_137 : decode cX6_lay 137 = .ok (.iconst 0, 1) := by decide +kernel
theorem dX6_lay_138 : decode cX6_lay 138 = .ok (.istore 5, 2) := by decide +kernel
theorem dX6_lay_140 : decode cX6_lay 140 = .ok (.iload 5, 2) := by decide +kernel
theorem dX6_lay_142 : decode cX6_lay 142 = .ok (.iconst 1, 1) := by decide +kernel
theorem dX6_lay_143 : decode cX6_lay 143 = .ok (.aload_n 0, 1) := by decide +kernel
theorem dX6_lay_144 : decode cX6_lay 144 = .ok (.getfield 63, 3) := by decide +kernel
theorem dX6_lay_147 : decode cX6_lay 147 = .ok (.ishl, 1) := by decide +kernel
theorem dX6_lay_148 : decode cX6_lay 148 = .ok (.if_icmp .ge 24, 3) := by decide +kernel
theorem dX6_lay_151 : decode cX6_lay 151 = .ok (.aload_n 0, 1) := by decide +kernel
theorem dX6_lay_152 : decode cX6_lay 152 = .ok (.getfield 35, 3) := by decide +kernel
theorem dX6_lay_155 : decode cX6_lay 155 = .ok (.sipush 256, 3) := by decide +kernel
theorem dX6_lay_158 : decode cX6_lay 158 = .ok (.iload 4, 2) := by decide +kernel
theorem dX6_lay_160 : decode cX6_lay 160 = .ok (.imul, 1) := by decide +kernel
theorem dX6_lay_161 : decode cX6_lay 161 = .ok (.iload 5, 2) := by decide +kernel
theorem dX6_lay_163 : decode cX6_lay 163 = .ok (.iadd, 1) := by decide +kernel
theorem dX6_lay_164 : decode cX6_lay 164 = .ok (.iconst 0, 1) := by decide +kernel
theorem dX6_lay_165 : decode cX6_lay 165 = .ok (.iastore, 1) := by decide +kernel
theorem dX6_lay_166 : decode cX6_lay 166 = .ok (.iinc 5 1, 3) := by decide +kernel
theorem dX6_lay_169 : decode cX6_lay 169 = .ok (.goto (-29), 3) := by decide +kernel
theorem dX6_lay_172 : decode cX6_lay 172 = .ok (.iload 4, 2) := by decide +kernel
theorem dX6_lay_174 : decode cX6_lay 174 = .ok (.iconst 1, 1) := by decide +kernel
theorem dX6_lay_175 : decode cX6_lay 175 = .ok (.isub, 1) := by decide +kernel
theorem dX6_lay_176 : decode cX6_lay 176 = .ok (.istore 5, 2) := by decide +kernel
theorem dX6_lay_178 : decode cX6_lay 178 = .ok (.iload 5, 2) := by decide +kernel
theorem dX6_lay_180 : decode cX6_lay 180 = .ok (.ifCond .lt 156, 3) := by decide +kernel
theorem dX6_lay_183 : decode cX6_lay 183 = .ok (.iconst 0, 1) := by decide +kernel
theorem dX6_lay_184 : decode cX6_lay 184 = .ok (.istore 6, 2) := by decide +kernel
theorem dX6_lay_186 : decode cX6_lay 186 = .ok (.iload 6, 2) := by decide +kernel
theorem dX6_lay_188 : decode cX6_lay 188 = .ok (.iconst 1, 1) := by decide +kernel
theorem dX6_lay_189 : decode cX6_lay 189 = .ok (.aload_n 0, 1) := by decide +kernel
theorem dX6_lay_190 : decode cX6_lay 190 = .ok (.getfield 63, 3) := by decide +kernel
theorem dX6_lay_193 : decode cX6_lay 193 = .ok (.ishl, 1) := by decide +kernel
theorem dX6_lay_194 : decode cX6_lay 194 = .ok (.if_icmp .ge 136, 3) := by decide +kernel
theorem dX6_lay_197 : decode cX6_lay 197 = .ok (.bipush 100, 2) := by decide +kernel
theorem dX6_lay_199 : decode cX6_lay 199 = .ok (.aload_n 0, 1) := by decide +kernel
theorem dX6_lay_200 : decode cX6_lay 200 = .ok (.getfield 35, 3) := by decide +kernel
theorem dX6_lay_203 : decode cX6_lay 203 = .ok (.sipush 256, 3) := by decide +kernel
theorem dX6_lay_206 : decode cX6_lay 206 = .ok (.iload 5, 2) := by decide +kernel
theorem dX6_lay_208 : decode cX6_lay 208 = .ok (.imul, 1) := by decide +kernel
theorem dX6_lay_209 : decode cX6_lay 209 = .ok (.sipush 256, 3) := by decide +kernel
theorem dX6_lay_212 : decode cX6_lay 212 = .ok (.iadd, 1) := by decide +kernel
theorem dX6_lay_213 : decode cX6_lay 213 = .ok (.iload 6, 2) := by decide +kernel
theorem dX6_lay_215 : decode cX6_lay 215 = .ok (.iadd, 1) := by decide +kernel
theorem dX6_lay_216 : decode cX6_lay 216 = .ok (.iaload, 1) := by decide +kernel
theorem dX6_lay_217 : decode cX6_lay 217 = .ok (.iadd, 1) := by decide +kernel
theorem dX6_lay_218 : decode cX6_lay 218 = .ok (.istore 7, 2) := by decide +kernel
theorem dX6_lay_220 : decode cX6_lay 220 = .ok (.iconst 0, 1) := by decide +kernel
theorem dX6_lay_221 : decode cX6_lay 221 = .ok (.istore 8, 2) := by decide +kernel
theorem dX6_lay_223 : decode cX6_lay 223 = .ok (.iload 8, 2) := by decide +kernel
theorem dX6_lay_225 : decode cX6_lay 225 = .ok (.aload_n 0, 1) := by decide +kernel
theorem dX6_lay_226 : decode cX6_lay 226 = .ok (.getfield 63, 3) := by decide +kernel
theorem dX6_lay_229 : decode cX6_lay 229 = .ok (.if_icmp .ge 79, 3) := by decide +kernel
theorem dX6_lay_232 : decode cX6_lay 232 = .ok (.iload 6, 2) := by decide +kernel
theorem dX6_lay_234 : decode cX6_lay 234 = .ok (.iload 8, 2) := by decide +kernel
theorem dX6_lay_236 : decode cX6_lay 236 = .ok (.ishr, 1) := by decide +kernel
theorem dX6_lay_237 : decode cX6_lay 237 = .ok (.iconst 1, 1) := by decide +kernel
theorem dX6_lay_238 : decode cX6_lay 238 = .ok (.iand, 1) := by decide +kernel
theorem dX6_lay_239 : decode cX6_lay 239 = .ok (.ifCond .ne 43, 3) := by decide +kernel
theorem dX6_lay_242 : decode cX6_lay 242 = .ok (.aload_n 0, 1) := by decide +kernel
theorem dX6_lay_243 : decode cX6_lay 243 = .ok (.getfield 38, 3) := by decide +kernel
theorem dX6_lay_246 : decode cX6_lay 246 = .ok (.bipush 8, 2) := by decide +kernel
theorem dX6_lay_248 : decode cX6_lay 248 = .ok (.iload 5, 2) := by decide +kernel
theorem dX6_lay_250 : decode cX6_lay 250 = .ok (.imul, 1) := by decide +kernel
theorem dX6_lay_251 : decode cX6_lay 251 = .ok (.iload 8, 2) := by decide +kernel
theorem dX6_lay_253 : decode cX6_lay 253 = .ok (.iadd, 1) := by decide +kernel
theorem dX6_lay_254 : decode cX6_lay 254 = .ok (.iaload, 1) := by decide +kernel
theorem dX6_lay_255 : decode cX6_lay 255 = .ok (.aload_n 0, 1) := by decide +kernel
theorem dX6_lay_256 : decode cX6_lay 256 = .ok (.getfield 35, 3) := by decide +kernel
theorem dX6_lay_259 : decode cX6_lay 259 = .ok (.sipush 256, 3) := by decide +kernel
theorem dX6_lay_262 : decode cX6_lay 262 = .ok (.iload 5, 2) := by decide +kernel
theorem dX6_lay_264 : decode cX6_lay 264 = .ok (.imul, 1) := by decide +kernel
theorem dX6_lay_265 : decode cX6_lay 265 = .ok (.sipush 256, 3) := by decide +kernel
theorem dX6_lay_268 : decode cX6_lay 268 = .ok (.iadd, 1) := by decide +kernel
theorem dX6_lay_269 : decode cX6_lay 269 = .ok (.iload 6, 2) := by decide +kernel
theorem dX6_lay_271 : decode cX6_lay 271 = .ok (.iconst 1, 1) := by decide +kernel
theorem dX6_lay_272 : decode cX6_lay 272 = .ok (.iload 8, 2) := by decide +kernel
theorem dX6_lay_274 : decode cX6_lay 274 = .ok (.ishl, 1) := by decide +kernel
theorem dX6_lay_275 : decode cX6_lay 275 = .ok (.ior, 1) := by decide +kernel
theorem dX6_lay_276 : decode cX6_lay 276 = .ok (.iadd, 1) := by decide +kernel
theorem dX6_lay_277 : decode cX6_lay 277 = .ok (.iaload, 1) := by decide +kernel
theorem dX6_lay_278 : decode cX6_lay 278 = .ok (.iadd, 1) := by decide +kernel
theorem dX6_lay_279 : decode cX6_lay 279 = .ok (.goto 5, 3) := by decide +kernel
theorem dX6_lay_282 : decode cX6_lay 282 = .ok (.ldc 112, 2) := by decide +kernel
theorem dX6_lay_284 : decode cX6_lay 284 = .ok (.istore 9, 2) := by decide +kernel
theorem dX6_lay_286 : decode cX6_lay 286 = .ok (.iload 9, 2) := by decide +kernel
theorem dX6_lay_288 : decode cX6_lay 288 = .ok (.iload 7, 2) := by decide +kernel
theorem dX6_lay_290 : decode cX6_lay 290 = .ok (.if_icmp .ge 8, 3) := by decide +kernel
theorem dX6_lay_293 : decode cX6_lay 293 = .ok (.iload 9, 2) := by decide +kernel
theorem dX6_lay_295 : decode cX6_lay 295 = .ok (.goto 5, 3) := by decide +kernel
theorem dX6_lay_298 : decode cX6_lay 298 = .ok (.iload 7, 2) := by decide +kernel
theorem dX6_lay_300 : decode cX6_lay 300 = .ok (.istore 7, 2) := by decide +kernel
theorem dX6_lay_302 : decode cX6_lay 302 = .ok (.iinc 8 1, 3) := by decide +kernel
theorem dX6_lay_305 : decode cX6_lay 305 = .ok (.goto (-82), 3) := by decide +kernel
theorem dX6_lay_308 : decode cX6_lay 308 = .ok (.aload_n 0, 1) := by decide +kernel
theorem dX6_lay_309 : decode cX6_lay 309 = .ok (.getfield 35, 3) := by decide +kernel
theorem dX6_lay_312 : decode cX6_lay 312 = .ok (.sipush 256, 3) := by decide +kernel
theorem dX6_lay_315 : decode cX6_lay 315 = .ok (.iload 5, 2) := by decide +kernel
theorem dX6_lay_317 : decode cX6_lay 317 = .ok (.imul, 1) := by decide +kernel
theorem dX6_lay_318 : decode cX6_lay 318 = .ok (.iload 6, 2) := by decide +kernel
theorem dX6_lay_320 : decode cX6_lay 320 = .ok (.iadd, 1) := by decide +kernel
theorem dX6_lay_321 : decode cX6_lay 321 = .ok (.iload 7, 2) := by decide +kernel
theorem dX6_lay_323 : decode cX6_lay 323 = .ok (.iastore, 1) := by decide +kernel
theorem dX6_lay_324 : decode cX6_lay 324 = .ok (.iinc 6 1, 3) := by decide +kernel
theorem dX6_lay_327 : decode cX6_lay 327 = .ok (.goto (-141), 3) := by decide +kernel
theorem dX6_lay_330 : decode cX6_lay 330 = .ok (.iinc 5 (-1), 3) := by decide +kernel
theorem dX6_lay_333 : decode cX6_lay 333 = .ok (.goto (-155), 3) := by decide +kernel
theorem dX6_lay_336 : decode cX6_lay 336 = .ok (.aload_n 0, 1) := by decide +kernel
theorem dX6_lay_337 : decode cX6_lay 337 = .ok (.getfield 35, 3) := by decide +kernel
theorem dX6_lay_340 : decode cX6_lay 340 = .ok (.iconst 0, 1) := by decide +kernel
theorem dX6_lay_341 : decode cX6_lay 341 = .ok (.iaload, 1) := by decide +kernel
theorem dX6_lay_342 : decode cX6_lay 342 = .ok (.ireturn, 1) := by decide +kernel
theorem dX6_match_0 : decode cX6_match 0 = .ok (.aload_n 0, 1) := by decide +kernel
theorem dX6_match_1 : decode cX6_match 1 = .ok (.iload_n 1, 1) := by decide +kernel
theorem dX6_match_2 : decode cX6_match 2 = .ok (.iload_n 2, 1) := by decide +kernel
theorem dX6_match_3 : decode cX6_match 3 = .ok (.iload_n 3, 1) := by decide +kernel
theorem dX6_match_4 : decode cX6_match 4 = .ok (.invokevirtual 124, 3) := by decide +kernel
theorem dX6_match_7 : decode cX6_match 7 = .ok (.istore 4, 2) := by decide +kernel
theorem dX6_match_9 : decode cX6_match 9 = .ok (.iconst 0, 1) := by decide +kernel
theorem dX6_match_10 : decode cX6_match 10 = .ok (.istore 5, 2) := by decide +kernel
theorem dX6_match_12 : decode cX6_match 12 = .ok (.iconst 0, 1) := by decide +kernel
theorem dX6_match_13 : decode cX6_match 13 = .ok (.istore 6, 2) := by decide +kernel
theorem dX6_match_15 : decode cX6_match 15 = .ok (.iload 6, 2) := by decide +kernel
theorem dX6_match_17 : decode cX6_match 17 = .ok (.aload_n 0, 1) := by decide +kernel
theorem dX6_match_18 : decode cX6_match 18 = .ok (.getfield 26, 3) := by decide +kernel
theorem dX6_match_21 : decode cX6_match 21 = .ok (.iload_n 1, 1) := by decide +kernel
theorem dX6_match_22 : decode cX6_match 22 = .ok (.iaload, 1) := by decide +kernel
theorem dX6_match_23 : decode cX6_match 23 = .ok (.if_icmp .ge 188, 3) := by decide +kernel
theorem dX6_match_26 : decode cX6_match 26 = .ok (.aload_n 0, 1) := by decide +kernel
theorem dX6_match_27 : decode cX6_match 27 = .ok (.getfield 44, 3) := by decide +kernel
theorem dX6_match_30 : decode cX6_match 30 = .ok (.iload 6, 2) := by decide +kernel
theorem dX6_match_32 : decode cX6_match 32 = .ok (.bipush (-9), 2) := by decide +kernel
theorem dX6_match_34 : decode cX6_match 34 = .ok (.iastore, 1) := by decide +kernel
theorem dX6_match_35 : decode cX6_match 35 = .ok (.aload_n 0, 1) := by decide +kernel
theorem dX6_match_36 : decode cX6_match 36 = .ok (.getfield 63, 3) := by decide +kernel
theorem dX6_match_39 : decode cX6_match 39 = .ok (.iconst 1, 1) := by decide +kernel
theorem dX6_match_40 : decode cX6_match 40 = .ok (.isub, 1) := by decide +kernel
theorem dX6_match_41 : decode cX6_match 41 = .ok (.istore 7, 2) := by decide +kernel
theorem dX6_match_43 : decode cX6_match 43 = .ok (.iload 7, 2) := by decide +kernel
theorem dX6_match_45 : decode cX6_match 45 = .ok (.ifCond .lt 110, 3) := by decide +kernel
theorem dX6_match_48 : decode cX6_match 48 = .ok (.iload 5, 2) := by decide +kernel
theorem dX6_match_50 : decode cX6_match 50 = .ok (.iload 7, 2) := by decide +kernel
theorem dX6_match_52 : decode cX6_match 52 = .ok (.ishr, 1) := by decide +kernel
theorem dX6_match_53 : decode cX6_match 53 = .ok (.iconst 1, 1) := by decide +kernel
theorem dX6_match_54 : decode cX6_match 54 = .ok (.iand, 1) := by decide +kernel
theorem dX6_match_55 : decode cX6_match 55 = .ok (.ifCond .ne 67, 3) := by decide +kernel
theorem dX6_match_58 : decode cX6_match 58 = .ok (.aload_n 0, 1) := by decide +kernel
theorem dX6_match_59 : decode cX6_match 59 = .ok (.getfield 38, 3) := by decide +kernel
theorem dX6_match_62 : decode cX6_match 62 = .ok (.bipush 8, 2) := by decide +kernel
theorem dX6_match_64 : decode cX6_match 64 = .ok (.iload 6, 2) := by decide +kernel
theorem dX6_match_66 : decode cX6_match 66 = .ok (.imul, 1) := by decide +kernel
theorem dX6_match_67 : decode cX6_match 67 = .ok (.iload 7, 2) := by decide +kernel
theorem dX6_match_69 : decode cX6_match 69 = .ok (.iadd, 1) := by decide +kernel
theorem dX6_match_70 : decode cX6_match 70 = .ok (.iaload, 1) := by decide +kernel
theorem dX6_match_71 : decode cX6_match 71 = .ok (.ldc 112, 2) := by decide +kernel
theorem dX6_match_73 : decode cX6_match 73 = .ok (.if_icmp .ge 49, 3) := by decide +kernel
theorem dX6_match_76 : decode cX6_match 76 = .ok (.aload_n 0, 1) := by decide +kernel
theorem dX6_match_77 : decode cX6_match 77 = .ok (.getfield 38, 3) := by decide +kernel
theorem dX6_match_80 : decode cX6_match 80 = .ok (.bipush 8, 2) := by decide +kernel
theorem dX6_match_82 : decode cX6_match 82 = .ok (.iload 6, 2) := by decide +kernel
theorem dX6_match_84 : decode cX6_match 84 = .ok (.imul, 1) := by decide +kernel
theorem dX6_match_85 : decode cX6_match 85 = .ok (.iload 7, 2) := by decide +kernel
theorem dX6_match_87 : decode cX6_match 87 = .ok (.iadd, 1) := by decide +kernel
theorem dX6_match_88 : decode cX6_match 88 = .ok (.iaload, 1) := by decide +kernel
theorem dX6_match_89 : decode cX6_match 89 = .ok (.aload_n 0, 1) := by decide +kernel
theorem dX6_match_90 : decode cX6_match 90 = .ok (.getfield 35, 3) := by decide +kernel
theorem dX6_match_93 : decode cX6_match 93 = .ok (.sipush 256, 3) := by decide +kernel
theorem dX6_match_96 : decode cX6_match 96 = .ok (.iload 6, 2) := by decide +kernel
theorem dX6_match_98 : decode cX6_match 98 = .ok (.imul, 1) := by decide +kernel
theorem dX6_match_99 : decode cX6_match 99 = .ok (.sipush 256, 3) := by decide +kernel
theorem dX6_match_102 : decode cX6_match 102 = .ok (.iadd, 1) := by decide +kernel
theorem dX6_match_103 : decode cX6_match 103 = .ok (.iload 5, 2) := by decide +kernel
theorem dX6_match_105 : decode cX6_match 105 = .ok (.iconst 1, 1) := by decide +kernel
theorem dX6_match_106 : decode cX6_match 106 = .ok (.iload 7, 2) := by decide +kernel
theorem dX6_match_108 : decode cX6_match 108 = .ok (.ishl, 1) := by decide +kernel
theorem dX6_match_109 : decode cX6_match 109 = .ok (.ior, 1) := by decide +kernel
theorem dX6_match_110 : decode cX6_match 110 = .ok (.iadd, 1) := by decide +kernel
theorem dX6_match_111 : decode cX6_match 111 = .ok (.iaload, 1) := by decide +kernel
theorem dX6_match_112 : decode cX6_match 112 = .ok (.iadd, 1) := by decide +kernel
theorem dX6_match_113 : decode cX6_match 113 = .ok (.iload 4, 2) := by decide +kernel
theorem dX6_match_115 : decode cX6_match 115 = .ok (.if_icmp .ne 7, 3) := by decide +kernel
theorem dX6_match_118 : decode cX6_match 118 = .ok (.iconst 1, 1) := by decide +kernel
theorem dX6_match_119 : decode cX6_match 119 = .ok (.goto 4, 3) := by decide +kernel
theorem dX6_match_122 : decode cX6_match 122 = .ok (.iconst 0, 1) := by decide +kernel
theorem dX6_match_123 : decode cX6_match 123 = .ok (.istore 8, 2) := by decide +kernel
theorem dX6_match_125 : decode cX6_match 125 = .ok (.aload_n 0, 1) := by decide +kernel
theorem dX6_match_126 : decode cX6_match 126 = .ok (.getfield 44, 3) := by decide +kernel
theorem dX6_match_129 : decode cX6_match 129 = .ok (.iload 6, 2) := by decide +kernel
theorem dX6_match_131 : decode cX6_match 131 = .ok (.iload 8, 2) := by decide +kernel
theorem dX6_match_133 : decode cX6_match 133 = .ok (.ifCond .eq 8, 3) := by decide +kernel
theorem dX6_match_136 : decode cX6_match 136 = .ok (.iload 7, 2) := by decide +kernel
theorem dX6_match_138 : decode cX6_match 138 = .ok (.goto 10, 3) := by decide +kernel
theorem dX6_match_141 : decode cX6_match 141 = .ok (.aload_n 0, 1) := by decide +kernel
theorem dX6_match_142 : decode cX6_match 142 = .ok (.getfield 44, 3) := by decide +kernel
theorem dX6_match_145 : decode cX6_match 145 = .ok (.iload 6, 2) := by decide +kernel
theorem dX6_match_147 : decode cX6_match 147 = .ok (.iaload, 1) := by decide +kernel
theorem dX6_match_148 : decode cX6_match 148 = .ok (.iastore, 1) := by decide +kernel
theorem dX6_match_149 : decode cX6_match 149 = .ok (.iinc 7 (-1), 3) := by decide +kernel
theorem dX6_match_152 : decode cX6_match 152 = .ok (.goto (-109), 3) := by decide +kernel
theorem dX6_match_155 : decode cX6_match 155 = .ok (.iload 5, 2) := by decide +kernel
theorem dX6_match_157 : decode cX6_match 157 = .ok (.aload_n 0, 1) := by decide +kernel
theorem dX6_match_158 : decode cX6_match 158 = .ok (.getfield 44, 3) := by decide +kernel
theorem dX6_match_161 : decode cX6_match 161 = .ok (.iload 6, 2) := by decide +kernel
theorem dX6_match_163 : decode cX6_match 163 = .ok (.iaload, 1) := by decide +kernel
theorem dX6_match_164 : decode cX6_match 164 = .ok (.bipush (-9), 2) := by decide +kernel
theorem dX6_match_166 : decode cX6_match 166 = .ok (.if_icmp .ne 7, 3) := by decide +kernel
theorem dX6_match_169 : decode cX6_match 169 = .ok (.iconst 0, 1) := by decide +kernel
theorem dX6_match_170 : decode cX6_match 170 = .ok (.goto 12, 3) := by decide +kernel
theorem dX6_match_173 : decode cX6_match 173 = .ok (.iconst 1, 1) := by decide +kernel
theorem dX6_match_174 : decode cX6_match 174 = .ok (.aload_n 0, 1) := by decide +kernel
theorem dX6_match_175 : decode cX6_match 175 = .ok (.getfield 44, 3) := by decide +kernel
theorem dX6_match_178 : decode cX6_match 178 = .ok (.iload 6, 2) := by decide +kernel
theorem dX6_match_180 : decode cX6_match 180 = .ok (.iaload, 1) := by decide +kernel
theorem dX6_match_181 : decode cX6_match 181 = .ok (.ishl, 1) := by decide +kernel
theorem dX6_match_182 : decode cX6_match 182 = .ok (.ior, 1) := by decide +kernel
theorem dX6_match_183 : decode cX6_match 183 = .ok (.istore 5, 2) := by decide +kernel
theorem dX6_match_185 : decode cX6_match 185 = .ok (.aload_n 0, 1) := by decide +kernel
theorem dX6_match_186 : decode cX6_match 186 = .ok (.getfield 35, 3) := by decide +kernel
theorem dX6_match_189 : decode cX6_match 189 = .ok (.sipush 256, 3) := by decide +kernel
theorem dX6_match_192 : decode cX6_match 192 = .ok (.iload 6, 2) := by decide +kernel
theorem dX6_match_194 : decode cX6_match 194 = .ok (.imul, 1) := by decide +kernel
theorem dX6_match_195 : decode cX6_match 195 = .ok (.sipush 256, 3) := by decide +kernel
theorem dX6_match_198 : decode cX6_match 198 = .ok (.iadd, 1) := by decide +kernel
theorem dX6_match_199 : decode cX6_match 199 = .ok (.iload 5, 2) := by decide +kernel
theorem dX6_match_201 : decode cX6_match 201 = .ok (.iadd, 1) := by decide +kernel
theorem dX6_match_202 : decode cX6_match 202 = .ok (.iaload, 1) := by decide +kernel
theorem dX6_match_203 : decode cX6_match 203 = .ok (.istore 4, 2) := by decide +kernel
theorem dX6_match_205 : decode cX6_match 205 = .ok (.iinc 6 1, 3) := by decide +kernel
theorem dX6_match_208 : decode cX6_match 208 = .ok (.goto (-193), 3) := by decide +kernel
theorem dX6_match_211 : decode cX6_match 211 = .ok (.return_, 1) := by decide +kernel
theorem dX6_mayAsk_0 : decode cX6_mayAsk 0 = .ok (.aload_n 0, 1) := by decide +kernel
theorem dX6_mayAsk_1 : decode cX6_mayAsk 1 = .ok (.iload_n 1, 1) := by decide +kernel
theorem dX6_mayAsk_2 : decode cX6_mayAsk 2 = .ok (.invokevirtual 69, 3) := by decide +kernel
theorem dX6_mayAsk_5 : decode cX6_mayAsk 5 = .ok (.ifCond .ne 7, 3) := by decide +kernel
theorem dX6_mayAsk_8 : decode cX6_mayAsk 8 = .ok (.iconst (-1), 1) := by decide +kernel
theorem dX6_mayAsk_9 : decode cX6_mayAsk 9 = .ok (.goto 23, 3) := by decide +kernel
theorem dX6_mayAsk_12 : decode cX6_mayAsk 12 = .ok (.iload_n 2, 1) := by decide +kernel
theorem dX6_mayAsk_13 : decode cX6_mayAsk 13 = .ok (.invokestatic 90, 3) := by decide +kernel
theorem dX6_mayAsk_16 : decode cX6_mayAsk 16 = .ok (.ifCond .eq 10, 3) := by decide +kernel
theorem dX6_mayAsk_19 : decode cX6_mayAsk 19 = .ok (.iload_n 3, 1) := by decide +kernel
theorem dX6_mayAsk_20 : decode cX6_mayAsk 20 = .ok (.invokestatic 117, 3) := by decide +kernel
theorem dX6_mayAsk_23 : decode cX6_mayAsk 23 = .ok (.ifCond .ne 8, 3) := by decide +kernel
theorem dX6_mayAsk_26 : decode cX6_mayAsk 26 = .ok (.bipush (-2), 2) := by decide +kernel
theorem dX6_mayAsk_28 : decode cX6_mayAsk 28 = .ok (.goto 4, 3) := by decide +kernel
theorem dX6_mayAsk_31 : decode cX6_mayAsk 31 = .ok (.iconst 0, 1) := by decide +kernel
theorem dX6_mayAsk_32 : decode cX6_mayAsk 32 = .ok (.ireturn, 1) := by decide +kernel
theorem dX6_best_0 : decode cX6_best 0 = .ok (.aload_n 0, 1) := by decide +kernel
theorem dX6_best_1 : decode cX6_best 1 = .ok (.iload_n 1, 1) := by decide +kernel
theorem dX6_best_2 : decode cX6_best 2 = .ok (.iload_n 2, 1) := by decide +kernel
theorem dX6_best_3 : decode cX6_best 3 = .ok (.iload_n 3, 1) := by decide +kernel
theorem dX6_best_4 : decode cX6_best 4 = .ok (.invokevirtual 128, 3) := by decide +kernel
theorem dX6_best_7 : decode cX6_best 7 = .ok (.istore 4, 2) := by decide +kernel
theorem dX6_best_9 : decode cX6_best 9 = .ok (.iload 4, 2) := by decide +kernel
theorem dX6_best_11 : decode cX6_best 11 = .ok (.ifCond .ge 8, 3) := by decide +kernel
theorem dX6_best_14 : decode cX6_best 14 = .ok (.iload 4, 2) := by decide +kernel
theorem dX6_best_16 : decode cX6_best 16 = .ok (.goto 10, 3) := by decide +kernel
theorem dX6_best_19 : decode cX6_best 19 = .ok (.aload_n 0, 1) := by decide +kernel
theorem dX6_best_20 : decode cX6_best 20 = .ok (.iload_n 1, 1) := by decide +kernel
theorem dX6_best_21 : decode cX6_best 21 = .ok (.iload_n 2, 1) := by decide +kernel
theorem dX6_best_22 : decode cX6_best 22 = .ok (.iload_n 3, 1) := by decide +kernel
theorem dX6_best_23 : decode cX6_best 23 = .ok (.invokevirtual 124, 3) := by decide +kernel
theorem dX6_best_26 : decode cX6_best 26 = .ok (.ireturn, 1) := by decide +kernel
theorem dX6_matched_0 : decode cX6_matched 0 = .ok (.aload_n 0, 1) := by decide +kernel
theorem dX6_matched_1 : decode cX6_matched 1 = .ok (.iload_n 1, 1) := by decide +kernel
theorem dX6_matched_2 : decode cX6_matched 2 = .ok (.iload_n 2, 1) := by decide +kernel
theorem dX6_matched_3 : decode cX6_matched 3 = .ok (.invokevirtual 99, 3) := by decide +kernel
theorem dX6_matched_6 : decode cX6_matched 6 = .ok (.ifCond .ne 5, 3) := by decide +kernel
theorem dX6_matched_9 : decode cX6_matched 9 = .ok (.iconst (-1), 1) := by decide +kernel
theorem dX6_matched_10 : decode cX6_matched 10 = .ok (.ireturn, 1) := by decide +kernel
theorem dX6_matched_11 : decode cX6_matched 11 = .ok (.iload_n 3, 1) := by decide +kernel
theorem dX6_matched_12 : decode cX6_matched 12 = .ok (.invokestatic 90, 3) := by decide +kernel
theorem dX6_matched_15 : decode cX6_matched 15 = .ok (.ifCond .eq 11, 3) := by decide +kernel
theorem dX6_matched_18 : decode cX6_matched 18 = .ok (.iload 4, 2) := by decide +kernel
theorem dX6_matched_20 : decode cX6_matched 20 = .ok (.invokestatic 117, 3) := by decide +kernel
theorem dX6_matched_23 : decode cX6_matched 23 = .ok (.ifCond .ne 6, 3) := by decide +kernel
theorem dX6_matched_26 : decode cX6_matched 26 = .ok (.bipush (-2), 2) := by decide +kernel
theorem dX6_matched_28 : decode cX6_matched 28 = .ok (.ireturn, 1) := by decide +kernel
theorem dX6_matched_29 : decode cX6_matched 29 = .ok (.aload_n 0, 1) := by decide +kernel
theorem dX6_matched_30 : decode cX6_matched 30 = .ok (.iload_n 1, 1) := by decide +kernel
theorem dX6_matched_31 : decode cX6_matched 31 = .ok (.iload_n 3, 1) := by decide +kernel
theorem dX6_matched_32 : decode cX6_matched 32 = .ok (.iload 4, 2) := by decide +kernel
theorem dX6_matched_34 : decode cX6_matched 34 = .ok (.invokevirtual 131, 3) := by decide +kernel
theorem dX6_matched_37 : decode cX6_matched 37 = .ok (.aload_n 0, 1) := by decide +kernel
theorem dX6_matched_38 : decode cX6_matched 38 = .ok (.getfield 44, 3) := by decide +kernel
theorem dX6_matched_41 : decode cX6_matched 41 = .ok (.iload_n 2, 1) := by decide +kernel
theorem dX6_matched_42 : decode cX6_matched 42 = .ok (.iaload, 1) := by decide +kernel
theorem dX6_matched_43 : decode cX6_matched 43 = .ok (.ireturn, 1) := by decide +kernel
theorem dX6_areYears_0 : decode cX6_areYears 0 = .ok (.iload_n 0, 1) := by decide +kernel
theorem dX6_areYears_1 : decode cX6_areYears 1 = .ok (.invokestatic 90, 3) := by decide +kernel
theorem dX6_areYears_4 : decode cX6_areYears 4 = .ok (.ifCond .eq 30, 3) := by decide +kernel
theorem dX6_areYears_7 : decode cX6_areYears 7 = .ok (.iload_n 1, 1) := by decide +kernel
theorem dX6_areYears_8 : decode cX6_areYears 8 = .ok (.invokestatic 90, 3) := by decide +kernel
theorem dX6_areYears_11 : decode cX6_areYears 11 = .ok (.ifCond .eq 23, 3) := by decide +kernel
theorem dX6_areYears_14 : decode cX6_areYears 14 = .ok (.iload_n 1, 1) := by decide +kernel
theorem dX6_areYears_15 : decode cX6_areYears 15 = .ok (.iload_n 0, 1) := by decide +kernel
theorem dX6_areYears_16 : decode cX6_areYears 16 = .ok (.if_icmp .lt 18, 3) := by decide +kernel
theorem dX6_areYears_19 : decode cX6_areYears 19 = .ok (.iload_n 1, 1) := by decide +kernel
theorem dX6_areYears_20 : decode cX6_areYears 20 = .ok (.iload_n 0, 1) := by decide +kernel
theorem dX6_areYears_21 : decode cX6_areYears 21 = .ok (.isub, 1) := by decide +kernel
theorem dX6_areYears_22 : decode cX6_areYears 22 = .ok (.bipush 10, 2) := by decide +kernel
theorem dX6_areYears_24 : decode cX6_areYears 24 = .ok (.idiv, 1) := by decide +kernel
theorem dX6_areYears_25 : decode cX6_areYears 25 = .ok (.bipush 40, 2) := by decide +kernel
theorem dX6_areYears_27 : decode cX6_areYears 27 = .ok (.if_icmp .gt 7, 3) := by decide +kernel
theorem dX6_areYears_30 : decode cX6_areYears 30 = .ok (.iconst 1, 1) := by decide +kernel
theorem dX6_areYears_31 : decode cX6_areYears 31 = .ok (.goto 4, 3) := by decide +kernel
theorem dX6_areYears_34 : decode cX6_areYears 34 = .ok (.iconst 0, 1) := by decide +kernel
theorem dX6_areYears_35 : decode cX6_areYears 35 = .ok (.ireturn, 1) := by decide +kernel
theorem dX6_datedTo_0 : decode cX6_datedTo 0 = .ok (.iload_n 3, 1) := by decide +kernel
theorem dX6_datedTo_1 : decode cX6_datedTo 1 = .ok (.istore 5, 2) := by decide +kernel
theorem dX6_datedTo_3 : decode cX6_datedTo 3 = .ok (.aload_n 0, 1) := by decide +kernel
theorem dX6_datedTo_4 : decode cX6_datedTo 4 = .ok (.iload_n 1, 1) := by decide +kernel
theorem dX6_datedTo_5 : decode cX6_datedTo 5 = .ok (.iload_n 3, 1) := by decide +kernel
theorem dX6_datedTo_6 : decode cX6_datedTo 6 = .ok (.iload_n 2, 1) := by decide +kernel
theorem dX6_datedTo_7 : decode cX6_datedTo 7 = .ok (.invokevirtual 124, 3) := by decide +kernel
theorem dX6_datedTo_10 : decode cX6_datedTo 10 = .ok (.istore 6, 2) := by decide +kernel
theorem dX6_datedTo_12 : decode cX6_datedTo 12 = .ok (.iload_n 3, 1) := by decide +kernel
theorem dX6_datedTo_13 : decode cX6_datedTo 13 = .ok (.bipush 10, 2) := by decide +kernel
theorem dX6_datedTo_15 : decode cX6_datedTo 15 = .ok (.iadd, 1) := by decide +kernel
theorem dX6_datedTo_16 : decode cX6_datedTo 16 = .ok (.istore 7, 2) := by decide +kernel
theorem dX6_datedTo_18 : decode cX6_datedTo 18 = .ok (.iload 7, 2) := by decide +kernel
theorem dX6_datedTo_20 : decode cX6_datedTo 20 = .ok (.iload 4, 2) := by decide +kernel
theorem dX6_datedTo_22 : decode cX6_datedTo 22 = .ok (.if_icmp .gt 51, 3) := by decide +kernel
theorem dX6_datedTo_25 : decode cX6_datedTo 25 = .ok (.aload_n 0, 1) := by decide +kernel
theorem dX6_datedTo_26 : decode cX6_datedTo 26 = .ok (.iload_n 1, 1) := by decide +kernel
theorem dX6_datedTo_27 : decode cX6_datedTo 27 = .ok (.iload 7, 2) := by decide +kernel
theorem dX6_datedTo_29 : decode cX6_datedTo 29 = .ok (.iload_n 2, 1) := by decide +kernel
theorem dX6_datedTo_30 : decode cX6_datedTo 30 = .ok (.invokevirtual 124, 3) := by decide +kernel
theorem dX6_datedTo_33 : decode cX6_datedTo 33 = .ok (.istore 8, 2) := by decide +kernel
theorem dX6_datedTo_35 : decode cX6_datedTo 35 = .ok (.iload 8, 2) := by decide +kernel
theorem dX6_datedTo_37 : decode cX6_datedTo 37 = .ok (.iload 6, 2) := by decide +kernel
theorem dX6_datedTo_39 : decode cX6_datedTo 39 = .ok (.if_icmp .ge 8, 3) := by decide +kernel
theorem dX6_datedTo_42 : decode cX6_datedTo 42 = .ok (.iload 7, 2) := by decide +kernel
theorem dX6_datedTo_44 : decode cX6_datedTo 44 = .ok (.goto 5, 3) := by decide +kernel
theorem dX6_datedTo_47 : decode cX6_datedTo 47 = .ok (.iload 5, 2) := by decide +kernel
theorem dX6_datedTo_49 : decode cX6_datedTo 49 = .ok (.istore 5, 2) := by decide +kernel
theorem dX6_datedTo_51 : decode cX6_datedTo 51 = .ok (.iload 8, 2) := by decide +kernel
theorem dX6_datedTo_53 : decode cX6_datedTo 53 = .ok (.iload 6, 2) := by decide +kernel
theorem dX6_datedTo_55 : decode cX6_datedTo 55 = .ok (.if_icmp .ge 8, 3) := by decide +kernel
theorem dX6_datedTo_58 : decode cX6_datedTo 58 = .ok (.iload 8, 2) := by decide +kernel
theorem dX6_datedTo_60 : decode cX6_datedTo 60 = .ok (.goto 5, 3) := by decide +kernel
theorem dX6_datedTo_63 : decode cX6_datedTo 63 = .ok (.iload 6, 2) := by decide +kernel
theorem dX6_datedTo_65 : decode cX6_datedTo 65 = .ok (.istore 6, 2) := by decide +kernel
theorem dX6_datedTo_67 : decode cX6_datedTo 67 = .ok (.iinc 7 10, 3) := by decide +kernel
theorem dX6_datedTo_70 : decode cX6_datedTo 70 = .ok (.goto (-52), 3) := by decide +kernel
theorem dX6_datedTo_73 : decode cX6_datedTo 73 = .ok (.iload 5, 2) := by decide +kernel
theorem dX6_datedTo_75 : decode cX6_datedTo 75 = .ok (.ireturn, 1) := by decide +kernel
theorem dX6_dated_0 : decode cX6_dated 0 = .ok (.aload_n 0, 1) := by decide +kernel
theorem dX6_dated_1 : decode cX6_dated 1 = .ok (.iload_n 1, 1) := by decide +kernel
theorem dX6_dated_2 : decode cX6_dated 2 = .ok (.invokevirtual 69, 3) := by decide +kernel
theorem dX6_dated_5 : decode cX6_dated 5 = .ok (.ifCond .ne 5, 3) := by decide +kernel
theorem dX6_dated_8 : decode cX6_dated 8 = .ok (.iconst (-1), 1) := by decide +kernel
theorem dX6_dated_9 : decode cX6_dated 9 = .ok (.ireturn, 1) := by decide +kernel
theorem dX6_dated_10 : decode cX6_dated 10 = .ok (.iload_n 2, 1) := by decide +kernel
theorem dX6_dated_11 : decode cX6_dated 11 = .ok (.invokestatic 117, 3) := by decide +kernel
theorem dX6_dated_14 : decode cX6_dated 14 = .ok (.ifCond .eq 28, 3) := by decide +kernel
theorem dX6_dated_17 : decode cX6_dated 17 = .ok (.iload_n 3, 1) := by decide +kernel
theorem dX6_dated_18 : decode cX6_dated 18 = .ok (.iload 4, 2) := by decide +kernel
theorem dX6_dated_20 : decode cX6_dated 20 = .ok (.invokestatic 135, 3) := by decide +kernel
theorem dX6_dated_23 : decode cX6_dated 23 = .ok (.ifCond .eq 19, 3) := by decide +kernel
theorem dX6_dated_26 : decode cX6_dated 26 = .ok (.aload_n 0, 1) := by decide +kernel
theorem dX6_dated_27 : decode cX6_dated 27 = .ok (.iload_n 1, 1) := by decide +kernel
theorem dX6_dated_28 : decode cX6_dated 28 = .ok (.iload_n 2, 1) := by decide +kernel
theorem dX6_dated_29 : decode cX6_dated 29 = .ok (.iload_n 3, 1) := by decide +kernel
theorem dX6_dated_30 : decode cX6_dated 30 = .ok (.iload 4, 2) := by decide +kernel
theorem dX6_dated_32 : decode cX6_dated 32 = .ok (.invokevirtual 138, 3) := by decide +kernel
theorem dX6_dated_35 : decode cX6_dated 35 = .ok (.sipush 3000, 3) := by decide +kernel
theorem dX6_dated_38 : decode cX6_dated 38 = .ok (.iadd, 1) := by decide +kernel
theorem dX6_dated_39 : decode cX6_dated 39 = .ok (.goto 5, 3) := by decide +kernel
theorem dX6_dated_42 : decode cX6_dated 42 = .ok (.bipush (-2), 2) := by decide +kernel
theorem dX6_dated_44 : decode cX6_dated 44 = .ok (.ireturn, 1) := by decide +kernel
theorem dX6_doubt_0 : decode cX6_doubt 0 = .ok (.aload_n 0, 1) := by decide +kernel
theorem dX6_doubt_1 : decode cX6_doubt 1 = .ok (.iload_n 1, 1) := by decide +kernel
theorem dX6_doubt_2 : decode cX6_doubt 2 = .ok (.invokevirtual 69, 3) := by decide +kernel
theorem dX6_doubt_5 : decode cX6_doubt 5 = .ok (.ifCond .ne 5, 3) := by decide +kernel
theorem dX6_doubt_8 : decode cX6_doubt 8 = .ok (.iconst (-1), 1) := by decide +kernel
theorem dX6_doubt_9 : decode cX6_doubt 9 = .ok (.ireturn, 1) := by decide +kernel
theorem dX6_doubt_10 : decode cX6_doubt 10 = .ok (.iload_n 2, 1) := by decide +kernel
theorem dX6_doubt_11 : decode cX6_doubt 11 = .ok (.invokestatic 117, 3) := by decide +kernel
theorem dX6_doubt_14 : decode cX6_doubt 14 = .ok (.ifCond .eq 24, 3) := by decide +kernel
theorem dX6_doubt_17 : decode cX6_doubt 17 = .ok (.iload_n 3, 1) := by decide +kernel
theorem dX6_doubt_18 : decode cX6_doubt 18 = .ok (.iload 4, 2) := by decide +kernel
theorem dX6_doubt_20 : decode cX6_doubt 20 = .ok (.invokestatic 135, 3) := by decide +kernel
theorem dX6_doubt_23 : decode cX6_doubt 23 = .ok (.ifCond .eq 15, 3) := by decide +kernel
theorem dX6_doubt_26 : decode cX6_doubt 26 = .ok (.iload 5, 2) := by decide +kernel
theorem dX6_doubt_28 : decode cX6_doubt 28 = .ok (.iconst 0, 1) := by decide +kernel
theorem dX6_doubt_29 : decode cX6_doubt 29 = .ok (.sipush 800, 3) := by decide +kernel
theorem dX6_doubt_32 : decode cX6_doubt 32 = .ok (.invokestatic 59, 3) := by decide +kernel
theorem dX6_doubt_35 : decode cX6_doubt 35 = .ok (.ifCond .ne 6, 3) := by decide +kernel
theorem dX6_doubt_38 : decode cX6_doubt 38 = .ok (.bipush (-2), 2) := by decide +kernel
theorem dX6_doubt_40 : decode cX6_doubt 40 = .ok (.ireturn, 1) := by decide +kernel
theorem dX6_doubt_41 : decode cX6_doubt 41 = .ok (.aload_n 0, 1) := by decide +kernel
theorem dX6_doubt_42 : decode cX6_doubt 42 = .ok (.iload_n 1, 1) := by decide +kernel
theorem dX6_doubt_43 : decode cX6_doubt 43 = .ok (.aload_n 0, 1) := by decide +kernel
theorem dX6_doubt_44 : decode cX6_doubt 44 = .ok (.iload_n 1, 1) := by decide +kernel
theorem dX6_doubt_45 : decode cX6_doubt 45 = .ok (.iload_n 2, 1) := by decide +kernel
theorem dX6_doubt_46 : decode cX6_doubt 46 = .ok (.iload_n 3, 1) := by decide +kernel
theorem dX6_doubt_47 : decode cX6_doubt 47 = .ok (.iload 4, 2) := by decide +kernel
theorem dX6_doubt_49 : decode cX6_doubt 49 = .ok (.invokevirtual 138, 3) := by decide +kernel
theorem dX6_doubt_52 : decode cX6_doubt 52 = .ok (.iload_n 2, 1) := by decide +kernel
theorem dX6_doubt_53 : decode cX6_doubt 53 = .ok (.invokevirtual 124, 3) := by decide +kernel
theorem dX6_doubt_56 : decode cX6_doubt 56 = .ok (.istore 6, 2) := by decide +kernel
theorem dX6_doubt_58 : decode cX6_doubt 58 = .ok (.iconst 0, 1) := by decide +kernel
theorem dX6_doubt_59 : decode cX6_doubt 59 = .ok (.istore 7, 2) := by decide +kernel
theorem dX6_doubt_61 : decode cX6_doubt 61 = .ok (.iload_n 3, 1) := by decide +kernel
theorem dX6_doubt_62 : decode cX6_doubt 62 = .ok (.istore 8, 2) := by decide +kernel
theorem dX6_doubt_64 : decode cX6_doubt 64 = .ok (.iload 8, 2) := by decide +kernel
theorem dX6_doubt_66 : decode cX6_doubt 66 = .ok (.iload 4, 2) := by decide +kernel
theorem dX6_doubt_68 : decode cX6_doubt 68 = .ok (.if_icmp .gt 35, 3) := by decide +kernel
theorem dX6_doubt_71 : decode cX6_doubt 71 = .ok (.iload 7, 2) := by decide +kernel
theorem dX6_doubt_73 : decode cX6_doubt 73 = .ok (.aload_n 0, 1) := by decide +kernel
theorem dX6_doubt_74 : decode cX6_doubt 74 = .ok (.iload_n 1, 1) := by decide +kernel
theorem dX6_doubt_75 : decode cX6_doubt 75 = .ok (.iload 8, 2) := by decide +kernel
theorem dX6_doubt_77 : decode cX6_doubt 77 = .ok (.iload_n 2, 1) := by decide +kernel
theorem dX6_doubt_78 : decode cX6_doubt 78 = .ok (.invokevirtual 124, 3) := by decide +kernel
theorem dX6_doubt_81 : decode cX6_doubt 81 = .ok (.iload 6, 2) := by decide +kernel
theorem dX6_doubt_83 : decode cX6_doubt 83 = .ok (.iload 5, 2) := by decide +kernel
theorem dX6_doubt_85 : decode cX6_doubt 85 = .ok (.iadd, 1) := by decide +kernel
theorem dX6_doubt_86 : decode cX6_doubt 86 = .ok (.if_icmp .gt 7, 3) := by decide +kernel
theorem dX6_doubt_89 : decode cX6_doubt 89 = .ok (.iconst 1, 1) := by decide +kernel
theorem dX6_doubt_90 : decode cX6_doubt 90 = .ok (.goto 4, 3) := by decide +kernel
theorem dX6_doubt_93 : decode cX6_doubt 93 = .ok (.iconst 0, 1) := by decide +kernel
theorem dX6_doubt_94 : decode cX6_doubt 94 = .ok (.iadd, 1) := by decide +kernel
theorem dX6_doubt_95 : decode cX6_doubt 95 = .ok (.istore 7, 2) := by decide +kernel
theorem dX6_doubt_97 : decode cX6_doubt 97 = .ok (.iinc 8 10, 3) := by decide +kernel
theorem dX6_doubt_100 : decode cX6_doubt 100 = .ok (.goto (-36), 3) := by decide +kernel
theorem dX6_doubt_103 : decode cX6_doubt 103 = .ok (.iload 7, 2) := by decide +kernel
theorem dX6_doubt_105 : decode cX6_doubt 105 = .ok (.ireturn, 1) := by decide +kernel
theorem dX6_shift_0 : decode cX6_shift 0 = .ok (.aload_n 0, 1) := by decide +kernel
theorem dX6_shift_1 : decode cX6_shift 1 = .ok (.iload_n 1, 1) := by decide +kernel
theorem dX6_shift_2 : decode cX6_shift 2 = .ok (.invokevirtual 69, 3) := by decide +kernel
theorem dX6_shift_5 : decode cX6_shift 5 = .ok (.ifCond .ne 5, 3) := by decide +kernel
theorem dX6_shift_8 : decode cX6_shift 8 = .ok (.iconst (-1), 1) := by decide +kernel
theorem dX6_shift_9 : decode cX6_shift 9 = .ok (.ireturn, 1) := by decide +kernel
theorem dX6_shift_10 : decode cX6_shift 10 = .ok (.iload_n 2, 1) := by decide +kernel
theorem dX6_shift_11 : decode cX6_shift 11 = .ok (.invokestatic 90, 3) := by decide +kernel
theorem dX6_shift_14 : decode cX6_shift 14 = .ok (.ifCond .ne 6, 3) := by decide +kernel
theorem dX6_shift_17 : decode cX6_shift 17 = .ok (.bipush (-2), 2) := by decide +kernel
theorem dX6_shift_19 : decode cX6_shift 19 = .ok (.ireturn, 1) := by decide +kernel
theorem dX6_shift_20 : decode cX6_shift 20 = .ok (.aload_n 0, 1) := by decide +kernel
theorem dX6_shift_21 : decode cX6_shift 21 = .ok (.iload_n 1, 1) := by decide +kernel
theorem dX6_shift_22 : decode cX6_shift 22 = .ok (.iload_n 2, 1) := by decide +kernel
theorem dX6_shift_23 : decode cX6_shift 23 = .ok (.iconst 0, 1) := by decide +kernel
theorem dX6_shift_24 : decode cX6_shift 24 = .ok (.invokevirtual 131, 3) := by decide +kernel
theorem dX6_shift_27 : decode cX6_shift 27 = .ok (.iconst 0, 1) := by decide +kernel
theorem dX6_shift_28 : decode cX6_shift 28 = .ok (.istore_n 3, 1) := by decide +kernel
theorem dX6_shift_29 : decode cX6_shift 29 = .ok (.iconst 0, 1) := by decide +kernel
theorem dX6_shift_30 : decode cX6_shift 30 = .ok (.istore 4, 2) := by decide +kernel
theorem dX6_shift_32 : decode cX6_shift 32 = .ok (.iload 4, 2) := by decide +kernel
theorem dX6_shift_34 : decode cX6_shift 34 = .ok (.aload_n 0, 1) := by decide +kernel
theorem dX6_shift_35 : decode cX6_shift 35 = .ok (.getfield 26, 3) := by decide +kernel
theorem dX6_shift_38 : decode cX6_shift 38 = .ok (.iload_n 1, 1) := by decide +kernel
theorem dX6_shift_39 : decode cX6_shift 39 = .ok (.iaload, 1) := by decide +kernel
theorem dX6_shift_40 : decode cX6_shift 40 = .ok (.if_icmp .ge 127, 3) := by decide +kernel
theorem dX6_shift_43 : decode cX6_shift 43 = .ok (.aload_n 0, 1) := by decide +kernel
theorem dX6_shift_44 : decode cX6_shift 44 = .ok (.getfield 44, 3) := by decide +kernel
theorem dX6_shift_47 : decode cX6_shift 47 = .ok (.iload 4, 2) := by decide +kernel
theorem dX6_shift_49 : decode cX6_shift 49 = .ok (.iaload, 1) := by decide +kernel
theorem dX6_shift_50 : decode cX6_shift 50 = .ok (.bipush (-9), 2) := by decide +kernel
theorem dX6_shift_52 : decode cX6_shift 52 = .ok (.if_icmp .eq 109, 3) := by decide +kernel
theorem dX6_shift_55 : decode cX6_shift 55 = .ok (.aload_n 0, 1) := by decide +kernel
theorem dX6_shift_56 : decode cX6_shift 56 = .ok (.getfield 41, 3) := by decide +kernel
theorem dX6_shift_59 : decode cX6_shift 59 = .ok (.bipush 8, 2) := by decide +kernel
theorem dX6_shift_61 : decode cX6_shift 61 = .ok (.iload 4, 2) := by decide +kernel
theorem dX6_shift_63 : decode cX6_shift 63 = .ok (.imul, 1) := by decide +kernel
theorem dX6_shift_64 : decode cX6_shift 64 = .ok (.aload_n 0, 1) := by decide +kernel
theorem dX6_shift_65 : decode cX6_shift 65 = .ok (.getfield 44, 3) := by decide +kernel
theorem dX6_shift_68 : decode cX6_shift 68 = .ok (.iload 4, 2) := by decide +kernel
theorem dX6_shift_70 : decode cX6_shift 70 = .ok (.iaload, 1) := by decide +kernel
theorem dX6_shift_71 : decode cX6_shift 71 = .ok (.iadd, 1) := by decide +kernel
theorem dX6_shift_72 : decode cX6_shift 72 = .ok (.iaload, 1) := by decide +kernel
theorem dX6_shift_73 : decode cX6_shift 73 = .ok (.ifCond .ne 88, 3) := by decide +kernel
theorem dX6_shift_76 : decode cX6_shift 76 = .ok (.aload_n 0, 1) := by decide +kernel
theorem dX6_shift_77 : decode cX6_shift 77 = .ok (.aload_n 0, 1) := by decide +kernel
theorem dX6_shift_78 : decode cX6_shift 78 = .ok (.getfield 44, 3) := by decide +kernel
theorem dX6_shift_81 : decode cX6_shift 81 = .ok (.iload 4, 2) := by decide +kernel
theorem dX6_shift_83 : decode cX6_shift 83 = .ok (.iaload, 1) := by decide +kernel
theorem dX6_shift_84 : decode cX6_shift 84 = .ok (.iload_n 2, 1) := by decide +kernel
theorem dX6_shift_85 : decode cX6_shift 85 = .ok (.invokevirtual 93, 3) := by decide +kernel
theorem dX6_shift_88 : decode cX6_shift 88 = .ok (.aload_n 0, 1) := by decide +kernel
theorem dX6_shift_89 : decode cX6_shift 89 = .ok (.getfield 29, 3) := by decide +kernel
theorem dX6_shift_92 : decode cX6_shift 92 = .ok (.bipush 8, 2) := by decide +kernel
theorem dX6_shift_94 : decode cX6_shift 94 = .ok (.iload_n 1, 1) := by decide +kernel
theorem dX6_shift_95 : decode cX6_shift 95 = .ok (.imul, 1) := by decide +kernel
theorem dX6_shift_96 : decode cX6_shift 96 = .ok (.iload 4, 2) := by decide +kernel
theorem dX6_shift_98 : decode cX6_shift 98 = .ok (.iadd, 1) := by decide +kernel
theorem dX6_shift_99 : decode cX6_shift 99 = .ok (.iaload, 1) := by decide +kernel
theorem dX6_shift_100 : decode cX6_shift 100 = .ok (.invokestatic 96, 3) := by decide +kernel
theorem dX6_shift_103 : decode cX6_shift 103 = .ok (.istore 5, 2) := by decide +kernel
theorem dX6_shift_105 : decode cX6_shift 105 = .ok (.iload_n 3, 1) := by decide +kernel
theorem dX6_shift_106 : decode cX6_shift 106 = .ok (.istore 6, 2) := by decide +kernel
theorem dX6_shift_108 : decode cX6_shift 108 = .ok (.iload 6, 2) := by decide +kernel
theorem dX6_shift_110 : decode cX6_shift 110 = .ok (.ifCond .le 39, 3) := by decide +kernel
theorem dX6_shift_113 : decode cX6_shift 113 = .ok (.aload_n 0, 1) := by decide +kernel
theorem dX6_shift_114 : decode cX6_shift 114 = .ok (.getfield 47, 3) := by decide +kernel
theorem dX6_shift_117 : decode cX6_shift 117 = .ok (.iload 6, 2) := by decide +kernel
theorem dX6_shift_119 : decode cX6_shift 119 = .ok (.iconst 1, 1) := by decide +kernel
theorem dX6_shift_120 : decode cX6_shift 120 = .ok (.isub, 1) := by decide +kernel
theorem dX6_shift_121 : decode cX6_shift 121 = .ok (.iaload, 1) := by decide +kernel
theorem dX6_shift_122 : decode cX6_shift 122 = .ok (.iload 5, 2) := by decide +kernel
theorem dX6_shift_124 : decode cX6_shift 124 = .ok (.if_icmp .le 25, 3) := by decide +kernel
theorem dX6_shift_127 : decode cX6_shift 127 = .ok (.aload_n 0, 1) := by decide +kernel
theorem dX6_shift_128 : decode cX6_shift 128 = .ok (.getfield 47, 3) := by decide +kernel
theorem dX6_shift_131 : decode cX6_shift 131 = .ok (.iload 6, 2) := by decide +kernel
theorem dX6_shift_133 : decode cX6_shift 133 = .ok (.aload_n 0, 1) := by decide +kernel
theorem dX6_shift_134 : decode cX6_shift 134 = .ok (.getfield 47, 3) := by decide +kernel
theorem dX6_shift_137 : decode cX6_shift 137 = .ok (.iload 6, 2) := by decide +kernel
theorem dX6_shift_139 : decode cX6_shift 139 = .ok (.iconst 1, 1) := by decide +kernel
theorem dX6_shift_140 : decode cX6_shift 140 = .ok (.isub, 1) := by decide +kernel
theorem dX6_shift_141 : decode cX6_shift 141 = .ok (.iaload, 1) := by decide +kernel
theorem dX6_shift_142 : decode cX6_shift 142 = .ok (.iastore, 1) := by decide +kernel
theorem dX6_shift_143 : decode cX6_shift 143 = .ok (.iinc 6 (-1), 3) := by decide +kernel
theorem dX6_shift_146 : decode cX6_shift 146 = .ok (.goto (-38), 3) := by decide +kernel
theorem dX6_shift_149 : decode cX6_shift 149 = .ok (.aload_n 0, 1) := by decide +kernel
theorem dX6_shift_150 : decode cX6_shift 150 = .ok (.getfield 47, 3) := by decide +kernel
theorem dX6_shift_153 : decode cX6_shift 153 = .ok (.iload 6, 2) := by decide +kernel
theorem dX6_shift_155 : decode cX6_shift 155 = .ok (.iload 5, 2) := by decide +kernel
theorem dX6_shift_157 : decode cX6_shift 157 = .ok (.iastore, 1) := by decide +kernel
theorem dX6_shift_158 : decode cX6_shift 158 = .ok (.iinc 3 1, 3) := by decide +kernel
theorem dX6_shift_161 : decode cX6_shift 161 = .ok (.iinc 4 1, 3) := by decide +kernel
theorem dX6_shift_164 : decode cX6_shift 164 = .ok (.goto (-132), 3) := by decide +kernel
theorem dX6_shift_167 : decode cX6_shift 167 = .ok (.iload_n 3, 1) := by decide +kernel
theorem dX6_shift_168 : decode cX6_shift 168 = .ok (.ifCond .ne 8, 3) := by decide +kernel
theorem dX6_shift_171 : decode cX6_shift 171 = .ok (.bipush (-9), 2) := by decide +kernel
theorem dX6_shift_173 : decode cX6_shift 173 = .ok (.goto 16, 3) := by decide +kernel
theorem dX6_shift_176 : decode cX6_shift 176 = .ok (.aload_n 0, 1) := by decide +kernel
theorem dX6_shift_177 : decode cX6_shift 177 = .ok (.getfield 47, 3) := by decide +kernel
theorem dX6_shift_180 : decode cX6_shift 180 = .ok (.iload_n 3, 1) := by decide +kernel
theorem dX6_shift_181 : decode cX6_shift 181 = .ok (.iconst 1, 1) := by decide +kernel
theorem dX6_shift_182 : decode cX6_shift 182 = .ok (.isub, 1) := by decide +kernel
theorem dX6_shift_183 : decode cX6_shift 183 = .ok (.iconst 2, 1) := by decide +kernel
theorem dX6_shift_184 : decode cX6_shift 184 = .ok (.idiv, 1) := by decide +kernel
theorem dX6_shift_185 : decode cX6_shift 185 = .ok (.iaload, 1) := by decide +kernel
theorem dX6_shift_186 : decode cX6_shift 186 = .ok (.bipush 30, 2) := by decide +kernel
theorem dX6_shift_188 : decode cX6_shift 188 = .ok (.iadd, 1) := by decide +kernel
theorem dX6_shift_189 : decode cX6_shift 189 = .ok (.ireturn, 1) := by decide +kernel
theorem dX6_layFaults_0 : decode cX6_layFaults 0 = .ok (.aload_n 0, 1) := by decide +kernel
theorem dX6_layFaults_1 : decode cX6_layFaults 1 = .ok (.iload_n 1, 1) := by decide +kernel
theorem dX6_layFaults_2 : decode cX6_layFaults 2 = .ok (.iload_n 2, 1) := by decide +kernel
theorem dX6_layFaults_3 : decode cX6_layFaults 3 = .ok (.iload_n 3, 1) := by decide +kernel
theorem dX6_layFaults_4 : decode cX6_layFaults 4 = .ok (.invokevirtual 131, 3) := by decide +kernel
theorem dX6_layFaults_7 : decode cX6_layFaults 7 = .ok (.iconst 0, 1) := by decide +kernel
theorem dX6_layFaults_8 : decode cX6_layFaults 8 = .ok (.istore 4, 2) := by decide +kernel
theorem dX6_layFaults_10 : decode cX6_layFaults 10 = .ok (.iload 4, 2) := by decide +kernel
theorem dX6_layFaults_12 : decode cX6_layFaults 12 = .ok (.bipush 8, 2) := by decide +kernel
theorem dX6_layFaults_14 : decode cX6_layFaults 14 = .ok (.if_icmp .ge 22, 3) := by decide +kernel
theorem dX6_layFaults_17 : decode cX6_layFaults 17 = .ok (.aload_n 0, 1) := by decide +kernel
theorem dX6_layFaults_18 : decode cX6_layFaults 18 = .ok (.getfield 50, 3) := by decide +kernel
theorem dX6_layFaults_21 : decode cX6_layFaults 21 = .ok (.bipush 8, 2) := by decide +kernel
theorem dX6_layFaults_23 : decode cX6_layFaults 23 = .ok (.iload_n 1, 1) := by decide +kernel
theorem dX6_layFaults_24 : decode cX6_layFaults 24 = .ok (.imul, 1) := by decide +kernel
theorem dX6_layFaults_25 : decode cX6_layFaults 25 = .ok (.iload 4, 2) := by decide +kernel
theorem dX6_layFaults_27 : decode cX6_layFaults 27 = .ok (.iadd, 1) := by decide +kernel
theorem dX6_layFaults_28 : decode cX6_layFaults 28 = .ok (.iconst 0, 1) := by decide +kernel
theorem dX6_layFaults_29 : decode cX6_layFaults 29 = .ok (.iastore, 1) := by decide +kernel
theorem dX6_layFaults_30 : decode cX6_layFaults 30 = .ok (.iinc 4 1, 3) := by decide +kernel
theorem dX6_layFaults_33 : decode cX6_layFaults 33 = .ok (.goto (-23), 3) := by decide +kernel
theorem dX6_layFaults_36 : decode cX6_layFaults 36 = .ok (.iconst 0, 1) := by decide +kernel
theorem dX6_layFaults_37 : decode cX6_layFaults 37 = .ok (.istore 4, 2) := by decide +kernel
theorem dX6_layFaults_39 : decode cX6_layFaults 39 = .ok (.iload 4, 2) := by decide +kernel
theorem dX6_layFaults_41 : decode cX6_layFaults 41 = .ok (.aload_n 0, 1) := by decide +kernel
theorem dX6_layFaults_42 : decode cX6_layFaults 42 = .ok (.getfield 26, 3) := by decide +kernel
theorem dX6_layFaults_45 : decode cX6_layFaults 45 = .ok (.iload_n 1, 1) := by decide +kernel
theorem dX6_layFaults_46 : decode cX6_layFaults 46 = .ok (.iaload, 1) := by decide +kernel
theorem dX6_layFaults_47 : decode cX6_layFaults 47 = .ok (.if_icmp .ge 56, 3) := by decide +kernel
theorem dX6_layFaults_50 : decode cX6_layFaults 50 = .ok (.aload_n 0, 1) := by decide +kernel
theorem dX6_layFaults_51 : decode cX6_layFaults 51 = .ok (.getfield 44, 3) := by decide +kernel
theorem dX6_layFaults_54 : decode cX6_layFaults 54 = .ok (.iload 4, 2) := by decide +kernel
theorem dX6_layFaults_56 : decode cX6_layFaults 56 = .ok (.iaload, 1) := by decide +kernel
theorem dX6_layFaults_57 : decode cX6_layFaults 57 = .ok (.bipush (-9), 2) := by decide +kernel
theorem dX6_layFaults_59 : decode cX6_layFaults 59 = .ok (.if_icmp .eq 38, 3) := by decide +kernel
theorem dX6_layFaults_62 : decode cX6_layFaults 62 = .ok (.aload_n 0, 1) := by decide +kernel
theorem dX6_layFaults_63 : decode cX6_layFaults 63 = .ok (.getfield 50, 3) := by decide +kernel
theorem dX6_layFaults_66 : decode cX6_layFaults 66 = .ok (.bipush 8, 2) := by decide +kernel
theorem dX6_layFaults_68 : decode cX6_layFaults 68 = .ok (.iload_n 1, 1) := by decide +kernel
theorem dX6_layFaults_69 : decode cX6_layFaults 69 = .ok (.imul, 1) := by decide +kernel
theorem dX6_layFaults_70 : decode cX6_layFaults 70 = .ok (.aload_n 0, 1) := by decide +kernel
theorem dX6_layFaults_71 : decode cX6_layFaults 71 = .ok (.getfield 44, 3) := by decide +kernel
theorem dX6_layFaults_74 : decode cX6_layFaults 74 = .ok (.iload 4, 2) := by decide +kernel
theorem dX6_layFaults_76 : decode cX6_layFaults 76 = .ok (.iaload, 1) := by decide +kernel
theorem dX6_layFaults_77 : decode cX6_layFaults 77 = .ok (.iadd, 1) := by decide +kernel
theorem dX6_layFaults_78 : decode cX6_layFaults 78 = .ok (.aload_n 0, 1) := by decide +kernel
theorem dX6_layFaults_79 : decode cX6_layFaults 79 = .ok (.getfield 41, 3) := by decide +kernel
theorem dX6_layFaults_82 : decode cX6_layFaults 82 = .ok (.bipush 8, 2) := by decide +kernel
theorem dX6_layFaults_84 : decode cX6_layFaults 84 = .ok (.iload 4, 2) := by decide +kernel
theorem dX6_layFaults_86 : decode cX6_layFaults 86 = .ok (.imul, 1) := by decide +kernel
theorem dX6_layFaults_87 : decode cX6_layFaults 87 = .ok (.aload_n 0, 1) := by decide +kernel
theorem dX6_layFaults_88 : decode cX6_layFaults 88 = .ok (.getfield 44, 3) := by decide +kernel
theorem dX6_layFaults_91 : decode cX6_layFaults 91 = .ok (.iload 4, 2) := by decide +kernel
theorem dX6_layFaults_93 : decode cX6_layFaults 93 = .ok (.iaload, 1) := by decide +kernel
theorem dX6_layFaults_94 : decode cX6_layFaults 94 = .ok (.iadd, 1) := by decide +kernel
theorem dX6_layFaults_95 : decode cX6_layFaults 95 = .ok (.iaload, 1) := by decide +kernel
theorem dX6_layFaults_96 : decode cX6_layFaults 96 = .ok (.iastore, 1) := by decide +kernel
theorem dX6_layFaults_97 : decode cX6_layFaults 97 = .ok (.iinc 4 1, 3) := by decide +kernel
theorem dX6_layFaults_100 : decode cX6_layFaults 100 = .ok (.goto (-61), 3) := by decide +kernel
theorem dX6_layFaults_103 : decode cX6_layFaults 103 = .ok (.return_, 1) := by decide +kernel
theorem dX6_fault_0 : decode cX6_fault 0 = .ok (.aload_n 0, 1) := by decide +kernel
theorem dX6_fault_1 : decode cX6_fault 1 = .ok (.iload_n 1, 1) := by decide +kernel
theorem dX6_fault_2 : decode cX6_fault 2 = .ok (.invokevirtual 69, 3) := by decide +kernel
theorem dX6_fault_5 : decode cX6_fault 5 = .ok (.ifCond .eq 11, 3) := by decide +kernel
theorem dX6_fault_8 : decode cX6_fault 8 = .ok (.aload_n 0, 1) := by decide +kernel
theorem dX6_fault_9 : decode cX6_fault 9 = .ok (.iload_n 2, 1) := by decide +kernel
theorem dX6_fault_10 : decode cX6_fault 10 = .ok (.invokevirtual 87, 3) := by decide +kernel
theorem dX6_fault_13 : decode cX6_fault 13 = .ok (.ifCond .ne 5, 3) := by decide +kernel
theorem dX6_fault_16 : decode cX6_fault 16 = .ok (.iconst (-1), 1) := by decide +kernel
theorem dX6_fault_17 : decode cX6_fault 17 = .ok (.ireturn, 1) := by decide +kernel
theorem dX6_fault_18 : decode cX6_fault 18 = .ok (.iload_n 3, 1) := by decide +kernel
theorem dX6_fault_19 : decode cX6_fault 19 = .ok (.invokestatic 90, 3) := by decide +kernel
theorem dX6_fault_22 : decode cX6_fault 22 = .ok (.ifCond .eq 11, 3) := by decide +kernel
theorem dX6_fault_25 : decode cX6_fault 25 = .ok (.iload 4, 2) := by decide +kernel
theorem dX6_fault_27 : decode cX6_fault 27 = .ok (.invokestatic 117, 3) := by decide +kernel
theorem dX6_fault_30 : decode cX6_fault 30 = .ok (.ifCond .ne 6, 3) := by decide +kernel
theorem dX6_fault_33 : decode cX6_fault 33 = .ok (.bipush (-2), 2) := by decide +kernel
theorem dX6_fault_35 : decode cX6_fault 35 = .ok (.ireturn, 1) := by decide +kernel
theorem dX6_fault_36 : decode cX6_fault 36 = .ok (.aload_n 0, 1) := by decide +kernel
theorem dX6_fault_37 : decode cX6_fault 37 = .ok (.iload_n 1, 1) := by decide +kernel
theorem dX6_fault_38 : decode cX6_fault 38 = .ok (.iload_n 3, 1) := by decide +kernel
theorem dX6_fault_39 : decode cX6_fault 39 = .ok (.iload 4, 2) := by decide +kernel
theorem dX6_fault_41 : decode cX6_fault 41 = .ok (.invokevirtual 142, 3) := by decide +kernel
theorem dX6_fault_44 : decode cX6_fault 44 = .ok (.aload_n 0, 1) := by decide +kernel
theorem dX6_fault_45 : decode cX6_fault 45 = .ok (.getfield 50, 3) := by decide +kernel
theorem dX6_fault_48 : decode cX6_fault 48 = .ok (.bipush 8, 2) := by decide +kernel
theorem dX6_fault_50 : decode cX6_fault 50 = .ok (.iload_n 1, 1) := by decide +kernel
theorem dX6_fault_51 : decode cX6_fault 51 = .ok (.imul, 1) := by decide +kernel
theorem dX6_fault_52 : decode cX6_fault 52 = .ok (.iload_n 2, 1) := by decide +kernel
theorem dX6_fault_53 : decode cX6_fault 53 = .ok (.iadd, 1) := by decide +kernel
theorem dX6_fault_54 : decode cX6_fault 54 = .ok (.iaload, 1) := by decide +kernel
theorem dX6_fault_55 : decode cX6_fault 55 = .ok (.ireturn, 1) := by decide +kernel
theorem dX6_apartOf_0 : decode cX6_apartOf 0 = .ok (.iconst 0, 1) := by decide +kernel
theorem dX6_apartOf_1 : decode cX6_apartOf 1 = .ok (.istore_n 3, 1) := by decide +kernel
theorem dX6_apartOf_2 : decode cX6_apartOf 2 = .ok (.iconst 0, 1) := by decide +kernel
theorem dX6_apartOf_3 : decode cX6_apartOf 3 = .ok (.istore 4, 2) := by decide +kernel
theorem dX6_apartOf_5 : decode cX6_apartOf 5 = .ok (.iload 4, 2) := by decide +kernel
theorem dX6_apartOf_7 : decode cX6_apartOf 7 = .ok (.aload_n 0, 1) := by decide +kernel
theorem dX6_apartOf_8 : decode cX6_apartOf 8 = .ok (.getfield 63, 3) := by decide +kernel
theorem dX6_apartOf_11 : decode cX6_apartOf 11 = .ok (.if_icmp .ge 44, 3) := by decide +kernel
theorem dX6_apartOf_14 : decode cX6_apartOf 14 = .ok (.iload_n 3, 1) := by decide +kernel
theorem dX6_apartOf_15 : decode cX6_apartOf 15 = .ok (.aload_n 0, 1) := by decide +kernel
theorem dX6_apartOf_16 : decode cX6_apartOf 16 = .ok (.getfield 50, 3) := by decide +kernel
theorem dX6_apartOf_19 : decode cX6_apartOf 19 = .ok (.bipush 8, 2) := by decide +kernel
theorem dX6_apartOf_21 : decode cX6_apartOf 21 = .ok (.iload_n 1, 1) := by decide +kernel
theorem dX6_apartOf_22 : decode cX6_apartOf 22 = .ok (.imul, 1) := by decide +kernel
theorem dX6_apartOf_23 : decode cX6_apartOf 23 = .ok (.iload 4, 2) := by decide +kernel
theorem dX6_apartOf_25 : decode cX6_apartOf 25 = .ok (.iadd, 1) := by decide +kernel
theorem dX6_apartOf_26 : decode cX6_apartOf 26 = .ok (.iaload, 1) := by decide +kernel
theorem dX6_apartOf_27 : decode cX6_apartOf 27 = .ok (.aload_n 0, 1) := by decide +kernel
theorem dX6_apartOf_28 : decode cX6_apartOf 28 = .ok (.getfield 50, 3) := by decide +kernel
theorem dX6_apartOf_31 : decode cX6_apartOf 31 = .ok (.bipush 8, 2) := by decide +kernel
theorem dX6_apartOf_33 : decode cX6_apartOf 33 = .ok (.iload_n 2, 1) := by decide +kernel
theorem dX6_apartOf_34 : decode cX6_apartOf 34 = .ok (.imul, 1) := by decide +kernel
theorem dX6_apartOf_35 : decode cX6_apartOf 35 = .ok (.iload 4, 2) := by decide +kernel
theorem dX6_apartOf_37 : decode cX6_apartOf 37 = .ok (.iadd, 1) := by decide +kernel
theorem dX6_apartOf_38 : decode cX6_apartOf 38 = .ok (.iaload, 1) := by decide +kernel
theorem dX6_apartOf_39 : decode cX6_apartOf 39 = .ok (.if_icmp .eq 7, 3) := by decide +kernel
theorem dX6_apartOf_42 : decode cX6_apartOf 42 = .ok (.iconst 1, 1) := by decide +kernel
theorem dX6_apartOf_43 : decode cX6_apartOf 43 = .ok (.goto 4, 3) := by decide +kernel
theorem dX6_apartOf_46 : decode cX6_apartOf 46 = .ok (.iconst 0, 1) := by decide +kernel
theorem dX6_apartOf_47 : decode cX6_apartOf 47 = .ok (.iadd, 1) := by decide +kernel
theorem dX6_apartOf_48 : decode cX6_apartOf 48 = .ok (.istore_n 3, 1) := by decide +kernel
theorem dX6_apartOf_49 : decode cX6_apartOf 49 = .ok (.iinc 4 1, 3) := by decide +kernel
theorem dX6_apartOf_52 : decode cX6_apartOf 52 = .ok (.goto (-47), 3) := by decide +kernel
theorem dX6_apartOf_55 : decode cX6_apartOf 55 = .ok (.iload_n 3, 1) := by decide +kernel
theorem dX6_apartOf_56 : decode cX6_apartOf 56 = .ok (.ireturn, 1) := by decide +kernel
theorem dX6_mayCompare_0 : decode cX6_mayCompare 0 = .ok (.aload_n 0, 1) := by decide +kernel
theorem dX6_mayCompare_1 : decode cX6_mayCompare 1 = .ok (.iload_n 1, 1) := by decide +kernel
theorem dX6_mayCompare_2 : decode cX6_mayCompare 2 = .ok (.invokevirtual 69, 3) := by decide +kernel
theorem dX6_mayCompare_5 : decode cX6_mayCompare 5 = .ok (.ifCond .eq 11, 3) := by decide +kernel
theorem dX6_mayCompare_8 : decode cX6_mayCompare 8 = .ok (.aload_n 0, 1) := by decide +kernel
theorem dX6_mayCompare_9 : decode cX6_mayCompare 9 = .ok (.iload_n 2, 1) := by decide +kernel
theorem dX6_mayCompare_10 : decode cX6_mayCompare 10 = .ok (.invokevirtual 69, 3) := by decide +kernel
theorem dX6_mayCompare_13 : decode cX6_mayCompare 13 = .ok (.ifCond .ne 5, 3) := by decide +kernel
theorem dX6_mayCompare_16 : decode cX6_mayCompare 16 = .ok (.iconst (-1), 1) := by decide +kernel
theorem dX6_mayCompare_17 : decode cX6_mayCompare 17 = .ok (.ireturn, 1) := by decide +kernel
theorem dX6_mayCompare_18 : decode cX6_mayCompare 18 = .ok (.iload_n 3, 1) := by decide +kernel
theorem dX6_mayCompare_19 : decode cX6_mayCompare 19 = .ok (.invokestatic 90, 3) := by decide +kernel
theorem dX6_mayCompare_22 : decode cX6_mayCompare 22 = .ok (.ifCond .eq 11, 3) := by decide +kernel
theorem dX6_mayCompare_25 : decode cX6_mayCompare 25 = .ok (.iload 4, 2) := by decide +kernel
theorem dX6_mayCompare_27 : decode cX6_mayCompare 27 = .ok (.invokestatic 117, 3) := by decide +kernel
theorem dX6_mayCompare_30 : decode cX6_mayCompare 30 = .ok (.ifCond .ne 6, 3) := by decide +kernel
theorem dX6_mayCompare_33 : decode cX6_mayCompare 33 = .ok (.bipush (-2), 2) := by decide +kernel
theorem dX6_mayCompare_35 : decode cX6_mayCompare 35 = .ok (.ireturn, 1) := by decide +kernel
theorem dX6_mayCompare_36 : decode cX6_mayCompare 36 = .ok (.aload_n 0, 1) := by decide +kernel
theorem dX6_mayCompare_37 : decode cX6_mayCompare 37 = .ok (.iload_n 1, 1) := by decide +kernel
theorem dX6_mayCompare_38 : decode cX6_mayCompare 38 = .ok (.iload_n 3, 1) := by decide +kernel
theorem dX6_mayCompare_39 : decode cX6_mayCompare 39 = .ok (.iload 4, 2) := by decide +kernel
theorem dX6_mayCompare_41 : decode cX6_mayCompare 41 = .ok (.invokevirtual 142, 3) := by decide +kernel
theorem dX6_mayCompare_44 : decode cX6_mayCompare 44 = .ok (.aload_n 0, 1) := by decide +kernel
theorem dX6_mayCompare_45 : decode cX6_mayCompare 45 = .ok (.iload_n 2, 1) := by decide +kernel
theorem dX6_mayCompare_46 : decode cX6_mayCompare 46 = .ok (.iload_n 3, 1) := by decide +kernel
theorem dX6_mayCompare_47 : decode cX6_mayCompare 47 = .ok (.iload 4, 2) := by decide +kernel
theorem dX6_mayCompare_49 : decode cX6_mayCompare 49 = .ok (.invokevirtual 142, 3) := by decide +kernel
theorem dX6_mayCompare_52 : decode cX6_mayCompare 52 = .ok (.iconst 0, 1) := by decide +kernel
theorem dX6_mayCompare_53 : decode cX6_mayCompare 53 = .ok (.ireturn, 1) := by decide +kernel
theorem dX6_share_0 : decode cX6_share 0 = .ok (.aload_n 0, 1) := by decide +kernel
theorem dX6_share_1 : decode cX6_share 1 = .ok (.iload_n 1, 1) := by decide +kernel
theorem dX6_share_2 : decode cX6_share 2 = .ok (.iload_n 2, 1) := by decide +kernel
theorem dX6_share_3 : decode cX6_share 3 = .ok (.iload_n 3, 1) := by decide +kernel
theorem dX6_share_4 : decode cX6_share 4 = .ok (.iload 4, 2) := by decide +kernel
theorem dX6_share_6 : decode cX6_share 6 = .ok (.invokevirtual 145, 3) := by decide +kernel
theorem dX6_share_9 : decode cX6_share 9 = .ok (.istore 5, 2) := by decide +kernel
theorem dX6_share_11 : decode cX6_share 11 = .ok (.iload 5, 2) := by decide +kernel
theorem dX6_share_13 : decode cX6_share 13 = .ok (.ifCond .ge 6, 3) := by decide +kernel
theorem dX6_share_16 : decode cX6_share 16 = .ok (.iload 5, 2) := by decide +kernel
theorem dX6_share_18 : decode cX6_share 18 = .ok (.ireturn, 1) := by decide +kernel
theorem dX6_share_19 : decode cX6_share 19 = .ok (.iconst 0, 1) := by decide +kernel
theorem dX6_share_20 : decode cX6_share 20 = .ok (.istore 6, 2) := by decide +kernel
theorem dX6_share_22 : decode cX6_share 22 = .ok (.iconst 0, 1) := by decide +kernel
theorem dX6_share_23 : decode cX6_share 23 = .ok (.istore 7, 2) := by decide +kernel
theorem dX6_share_25 : decode cX6_share 25 = .ok (.iload 7, 2) := by decide +kernel
theorem dX6_share_27 : decode cX6_share 27 = .ok (.aload_n 0, 1) := by decide +kernel
theorem dX6_share_28 : decode cX6_share 28 = .ok (.getfield 63, 3) := by decide +kernel
theorem dX6_share_31 : decode cX6_share 31 = .ok (.if_icmp .ge 61, 3) := by decide +kernel
theorem dX6_share_34 : decode cX6_share 34 = .ok (.iload 6, 2) := by decide +kernel
theorem dX6_share_36 : decode cX6_share 36 = .ok (.aload_n 0, 1) := by decide +kernel
theorem dX6_share_37 : decode cX6_share 37 = .ok (.getfield 50, 3) := by decide +kernel
theorem dX6_share_40 : decode cX6_share 40 = .ok (.bipush 8, 2) := by decide +kernel
theorem dX6_share_42 : decode cX6_share 42 = .ok (.iload_n 1, 1) := by decide +kernel
theorem dX6_share_43 : decode cX6_share 43 = .ok (.imul, 1) := by decide +kernel
theorem dX6_share_44 : decode cX6_share 44 = .ok (.iload 7, 2) := by decide +kernel
theorem dX6_share_46 : decode cX6_share 46 = .ok (.iadd, 1) := by decide +kernel
theorem dX6_share_47 : decode cX6_share 47 = .ok (.iaload, 1) := by decide +kernel
theorem dX6_share_48 : decode cX6_share 48 = .ok (.ifCond .eq 34, 3) := by decide +kernel
theorem dX6_share_51 : decode cX6_share 51 = .ok (.aload_n 0, 1) := by decide +kernel
theorem dX6_share_52 : decode cX6_share 52 = .ok (.getfield 50, 3) := by decide +kernel
theorem dX6_share_55 : decode cX6_share 55 = .ok (.bipush 8, 2) := by decide +kernel
theorem dX6_share_57 : decode cX6_share 57 = .ok (.iload_n 1, 1) := by decide +kernel
theorem dX6_share_58 : decode cX6_share 58 = .ok (.imul, 1) := by decide +kernel
theorem dX6_share_59 : decode cX6_share 59 = .ok (.iload 7, 2) := by decide +kernel
theorem dX6_share_61 : decode cX6_share 61 = .ok (.iadd, 1) := by decide +kernel
theorem dX6_share_62 : decode cX6_share 62 = .ok (.iaload, 1) := by decide +kernel
theorem dX6_share_63 : decode cX6_share 63 = .ok (.aload_n 0, 1) := by decide +kernel
theorem dX6_share_64 : decode cX6_share 64 = .ok (.getfield 50, 3) := by decide +kernel
theorem dX6_share_67 : decode cX6_share 67 = .ok (.bipush 8, 2) := by decide +kernel
theorem dX6_share_69 : decode cX6_share 69 = .ok (.iload_n 2, 1) := by decide +kernel
theorem dX6_share_70 : decode cX6_share 70 = .ok (.imul, 1) := by decide +kernel
theorem dX6_share_71 : decode cX6_share 71 = .ok (.iload 7, 2) := by decide +kernel
theorem dX6_share_73 : decode cX6_share 73 = .ok (.iadd, 1) := by decide +kernel
theorem dX6_share_74 : decode cX6_share 74 = .ok (.iaload, 1) := by decide +kernel
theorem dX6_share_75 : decode cX6_share 75 = .ok (.if_icmp .ne 7, 3) := by decide +kernel
theorem dX6_share_78 : decode cX6_share 78 = .ok (.iconst 1, 1) := by decide +kernel
theorem dX6_share_79 : decode cX6_share 79 = .ok (.goto 4, 3) := by decide +kernel
theorem dX6_share_82 : decode cX6_share 82 = .ok (.iconst 0, 1) := by decide +kernel
theorem dX6_share_83 : decode cX6_share 83 = .ok (.iadd, 1) := by decide +kernel
theorem dX6_share_84 : decode cX6_share 84 = .ok (.istore 6, 2) := by decide +kernel
theorem dX6_share_86 : decode cX6_share 86 = .ok (.iinc 7 1, 3) := by decide +kernel
theorem dX6_share_89 : decode cX6_share 89 = .ok (.goto (-64), 3) := by decide +kernel
theorem dX6_share_92 : decode cX6_share 92 = .ok (.iload 6, 2) := by decide +kernel
theorem dX6_share_94 : decode cX6_share 94 = .ok (.ireturn, 1) := by decide +kernel
theorem dX6_apart_0 : decode cX6_apart 0 = .ok (.aload_n 0, 1) := by decide +kernel
theorem dX6_apart_1 : decode cX6_apart 1 = .ok (.iload_n 1, 1) := by decide +kernel
theorem dX6_apart_2 : decode cX6_apart 2 = .ok (.iload_n 2, 1) := by decide +kernel
theorem dX6_apart_3 : decode cX6_apart 3 = .ok (.iload_n 3, 1) := by decide +kernel
theorem dX6_apart_4 : decode cX6_apart 4 = .ok (.iload 4, 2) := by decide +kernel
theorem dX6_apart_6 : decode cX6_apart 6 = .ok (.invokevirtual 145, 3) := by decide +kernel
theorem dX6_apart_9 : decode cX6_apart 9 = .ok (.istore 5, 2) := by decide +kernel
theorem dX6_apart_11 : decode cX6_apart 11 = .ok (.iload 5, 2) := by decide +kernel
theorem dX6_apart_13 : decode cX6_apart 13 = .ok (.ifCond .ge 8, 3) := by decide +kernel
theorem dX6_apart_16 : decode cX6_apart 16 = .ok (.iload 5, 2) := by decide +kernel
theorem dX6_apart_18 : decode cX6_apart 18 = .ok (.goto 9, 3) := by decide +kernel
theorem dX6_apart_21 : decode cX6_apart 21 = .ok (.aload_n 0, 1) := by decide +kernel
theorem dX6_apart_22 : decode cX6_apart 22 = .ok (.iload_n 1, 1) := by decide +kernel
theorem dX6_apart_23 : decode cX6_apart 23 = .ok (.iload_n 2, 1) := by decide +kernel
theorem dX6_apart_24 : decode cX6_apart 24 = .ok (.invokevirtual 148, 3) := by decide +kernel
theorem dX6_apart_27 : decode cX6_apart 27 = .ok (.ireturn, 1) := by decide +kernel
theorem dX6_layTree_0 : decode cX6_layTree 0 = .ok (.iconst 0, 1) := by decide +kernel
theorem dX6_layTree_1 : decode cX6_layTree 1 = .ok (.istore_n 3, 1) := by decide +kernel
theorem dX6_layTree_2 : decode cX6_layTree 2 = .ok (.iload_n 3, 1) := by decide +kernel
theorem dX6_layTree_3 : decode cX6_layTree 3 = .ok (.aload_n 0, 1) := by decide +kernel
theorem dX6_layTree_4 : decode cX6_layTree 4 = .ok (.getfield 66, 3) := by decide +kernel
theorem dX6_layTree_7 : decode cX6_layTree 7 = .ok (.if_icmp .ge 23, 3) := by decide +kernel
theorem dX6_layTree_10 : decode cX6_layTree 10 = .ok (.aload_n 0, 1) := by decide +kernel
theorem dX6_layTree_11 : decode cX6_layTree 11 = .ok (.iload_n 3, 1) := by decide +kernel
theorem dX6_layTree_12 : decode cX6_layTree 12 = .ok (.iload_n 1, 1) := by decide +kernel
theorem dX6_layTree_13 : decode cX6_layTree 13 = .ok (.iload_n 2, 1) := by decide +kernel
theorem dX6_layTree_14 : decode cX6_layTree 14 = .ok (.invokevirtual 142, 3) := by decide +kernel
theorem dX6_layTree_17 : decode cX6_layTree 17 = .ok (.aload_n 0, 1) := by decide +kernel
theorem dX6_layTree_18 : decode cX6_layTree 18 = .ok (.getfield 53, 3) := by decide +kernel
theorem dX6_layTree_21 : decode cX6_layTree 21 = .ok (.iload_n 3, 1) := by decide +kernel
theorem dX6_layTree_22 : decode cX6_layTree 22 = .ok (.iload_n 3, 1) := by decide +kernel
theorem dX6_layTree_23 : decode cX6_layTree 23 = .ok (.iastore, 1) := by decide +kernel
theorem dX6_layTree_24 : decode cX6_layTree 24 = .ok (.iinc 3 1, 3) := by decide +kernel
theorem dX6_layTree_27 : decode cX6_layTree 27 = .ok (.goto (-25), 3) := by decide +kernel
theorem dX6_layTree_30 : decode cX6_layTree 30 = .ok (.iconst 0, 1) := by decide +kernel
theorem dX6_layTree_31 : decode cX6_layTree 31 = .ok (.istore_n 3, 1) := by decide +kernel
theorem dX6_layTree_32 : decode cX6_layTree 32 = .ok (.iconst 0, 1) := by decide +kernel
theorem dX6_layTree_33 : decode cX6_layTree 33 = .ok (.istore 4, 2) := by decide +kernel
theorem dX6_layTree_35 : decode cX6_layTree 35 = .ok (.iload 4, 2) := by decide +kernel
theorem dX6_layTree_37 : decode cX6_layTree 37 = .ok (.iconst 1, 1) := by decide +kernel
theorem dX6_layTree_38 : decode cX6_layTree 38 = .ok (.iadd, 1) := by decide +kernel
theorem dX6_layTree_39 : decode cX6_layTree 39 = .ok (.aload_n 0, 1) := by decide +kernel
theorem dX6_layTree_40 : decode cX6_layTree 40 = .ok (.getfield 66, 3) := by decide +kernel
theorem dX6_layTree_43 : decode cX6_layTree 43 = .ok (.if_icmp .ge 195, 3) := by decide +kernel
theorem dX6_layTree_46 : decode cX6_layTree 46 = .ok (.ldc 112, 2) := by decide +kernel
theorem dX6_layTree_48 : decode cX6_layTree 48 = .ok (.istore 5, 2) := by decide +kernel
theorem dX6_layTree_50 : decode cX6_layTree 50 = .ok (.iconst 0, 1) := by decide +kernel
theorem dX6_layTree_51 : decode cX6_layTree 51 = .ok (.istore 6, 2) := by decide +kernel
theorem dX6_layTree_53 : decode cX6_layTree 53 = .ok (.iload 6, 2) := by decide +kernel
theorem dX6_layTree_55 : decode cX6_layTree 55 = .ok (.aload_n 0, 1) := by decide +kernel
theorem dX6_layTree_56 : decode cX6_layTree 56 = .ok (.getfield 66, 3) := by decide +kernel
theorem dX6_layTree_59 : decode cX6_layTree 59 = .ok (.if_icmp .ge 85, 3) := by decide +kernel
theorem dX6_layTree_62 : decode cX6_layTree 62 = .ok (.iload 6, 2) := by decide +kernel
theorem dX6_layTree_64 : decode cX6_layTree 64 = .ok (.iconst 1, 1) := by decide +kernel
theorem dX6_layTree_65 : decode cX6_layTree 65 = .ok (.iadd, 1) := by decide +kernel
theorem dX6_layTree_66 : decode cX6_layTree 66 = .ok (.istore 7, 2) := by decide +kernel
theorem dX6_layTree_68 : decode cX6_layTree 68 = .ok (.iload 7, 2) := by decide +kernel
theorem dX6_layTree_70 : decode cX6_layTree 70 = .ok (.aload_n 0, 1) := by decide +kernel
theorem dX6_layTree_71 : decode cX6_layTree 71 = .ok (.getfield 66, 3) := by decide +kernel
theorem dX6_layTree_74 : decode cX6_layTree 74 = .ok (.if_icmp .ge 64, 3) := by decide +kernel
theorem dX6_layTree_77 : decode cX6_layTree 77 = .ok (.aload_n 0, 1) := by decide +kernel
theorem dX6_layTree_78 : decode cX6_layTree 78 = .ok (.getfield 53, 3) := by decide +kernel
theorem dX6_layTree_81 : decode cX6_layTree 81 = .ok (.iload 6, 2) := by decide +kernel
theorem dX6_layTree_83 : decode cX6_layTree 83 = .ok (.iaload, 1) := by decide +kernel
theorem dX6_layTree_84 : decode cX6_layTree 84 = .ok (.aload_n 0, 1) := by decide +kernel
theorem dX6_layTree_85 : decode cX6_layTree 85 = .ok (.getfield 53, 3) := by decide +kernel
theorem dX6_layTree_88 : decode cX6_layTree 88 = .ok (.iload 7, 2) := by decide +kernel
theorem dX6_layTree_90 : decode cX6_layTree 90 = .ok (.iaload, 1) := by decide +kernel
theorem dX6_layTree_91 : decode cX6_layTree 91 = .ok (.if_icmp .eq 41, 3) := by decide +kernel
theorem dX6_layTree_94 : decode cX6_layTree 94 = .ok (.aload_n 0, 1) := by decide +kernel
theorem dX6_layTree_95 : decode cX6_layTree 95 = .ok (.iload 6, 2) := by decide +kernel
theorem dX6_layTree_97 : decode cX6_layTree 97 = .ok (.iload 7, 2) := by decide +kernel
theorem dX6_layTree_99 : decode cX6_layTree 99 = .ok (.invokevirtual 148, 3) := by decide +kernel
theorem dX6_layTree_102 : decode cX6_layTree 102 = .ok (.iload 5, 2) := by decide +kernel
theorem dX6_layTree_104 : decode cX6_layTree 104 = .ok (.if_icmp .ge 28, 3) := by decide +kernel
theorem dX6_layTree_107 : decode cX6_layTree 107 = .ok (.aload_n 0, 1) := by decide +kernel
theorem dX6_layTree_108 : decode cX6_layTree 108 = .ok (.iload 6, 2) := by decide +kernel
theorem dX6_layTree_110 : decode cX6_layTree 110 = .ok (.iload 7, 2) := by decide +kernel
theorem dX6_layTree_112 : decode cX6_layTree 112 = .ok (.invokevirtual 148, 3) := by decide +kernel
theorem dX6_layTree_115 : decode cX6_layTree 115 = .ok (.istore 5, 2) := by decide +kernel
theorem dX6_layTree_117 : decode cX6_layTree 117 = .ok (.aload_n 0, 1) := by decide +kernel
theorem dX6_layTree_118 : decode cX6_layTree 118 = .ok (.getfield 56, 3) := by decide +kernel
theorem dX6_layTree_121 : decode cX6_layTree 121 = .ok (.iload 4, 2) := by decide +kernel
theorem dX6_layTree_123 : decode cX6_layTree 123 = .ok (.bipush 10, 2) := by decide +kernel
theorem dX6_layTree_125 : decode cX6_layTree 125 = .ok (.iload 6, 2) := by decide +kernel
theorem dX6_layTree_127 : decode cX6_layTree 127 = .ok (.imul, 1) := by decide +kernel
theorem dX6_layTree_128 : decode cX6_layTree 128 = .ok (.iload 7, 2) := by decide +kernel
theorem dX6_layTree_130 : decode cX6_layTree 130 = .ok (.iadd, 1) := by decide +kernel
theorem dX6_layTree_131 : decode cX6_layTree 131 = .ok (.iastore, 1) := by decide +kernel
theorem dX6_layTree_132 : decode cX6_layTree 132 = .ok (.iinc 7 1, 3) := by decide +kernel
theorem dX6_layTree_135 : decode cX6_layTree 135 = .ok (.goto (-67), 3) := by decide +kernel
theorem dX6_layTree_138 : decode cX6_layTree 138 = .ok (.iinc 6 1, 3) := by decide +kernel
theorem dX6_layTree_141 : decode cX6_layTree 141 = .ok (.goto (-88), 3) := by decide +kernel
theorem dX6_layTree_144 : decode cX6_layTree 144 = .ok (.iload_n 3, 1) := by decide +kernel
theorem dX6_layTree_145 : decode cX6_layTree 145 = .ok (.iload 5, 2) := by decide +kernel
theorem dX6_layTree_147 : decode cX6_layTree 147 = .ok (.iadd, 1) := by decide +kernel
theorem dX6_layTree_148 : decode cX6_layTree 148 = .ok (.istore_n 3, 1) := by decide +kernel
theorem dX6_layTree_149 : decode cX6_layTree 149 = .ok (.aload_n 0, 1) := by decide +kernel
theorem dX6_layTree_150 : decode cX6_layTree 150 = .ok (.getfield 53, 3) := by decide +kernel
theorem dX6_layTree_153 : decode cX6_layTree 153 = .ok (.aload_n 0, 1) := by decide +kernel
theorem dX6_layTree_154 : decode cX6_layTree 154 = .ok (.getfield 56, 3) := by decide +kernel
theorem dX6_layTree_157 : decode cX6_layTree 157 = .ok (.iload 4, 2) := by decide +kernel
theorem dX6_layTree_159 : decode cX6_layTree 159 = .ok (.iaload, 1) := by decide +kernel
theorem dX6_layTree_160 : decode cX6_layTree 160 = .ok (.bipush 10, 2) := by decide +kernel
theorem dX6_layTree_162 : decode cX6_layTree 162 = .ok (.irem, 1) := by decide +kernel
theorem dX6_layTree_163 : decode cX6_layTree 163 = .ok (.iaload, 1) := by decide +kernel
theorem dX6_layTree_164 : decode cX6_layTree 164 = .ok (.istore 6, 2) := by decide +kernel
theorem dX6_layTree_166 : decode cX6_layTree 166 = .ok (.aload_n 0, 1) := by decide +kernel
theorem dX6_layTree_167 : decode cX6_layTree 167 = .ok (.getfield 53, 3) := by decide +kernel
theorem dX6_layTree_170 : decode cX6_layTree 170 = .ok (.aload_n 0, 1) := by decide +kernel
theorem dX6_layTree_171 : decode cX6_layTree 171 = .ok (.getfield 56, 3) := by decide +kernel
theorem dX6_layTree_174 : decode cX6_layTree 174 = .ok (.iload 4, 2) := by decide +kernel
theorem dX6_layTree_176 : decode cX6_layTree 176 = .ok (.iaload, 1) := by decide +kernel
theorem dX6_layTree_177 : decode cX6_layTree 177 = .ok (.bipush 10, 2) := by decide +kernel
theorem dX6_layTree_179 : decode cX6_layTree 179 = .ok (.idiv, 1) := by decide +kernel
theorem dX6_layTree_180 : decode cX6_layTree 180 = .ok (.iaload, 1) := by decide +kernel
theorem dX6_layTree_181 : decode cX6_layTree 181 = .ok (.istore 7, 2) := by decide +kernel
theorem dX6_layTree_183 : decode cX6_layTree 183 = .ok (.iconst 0, 1) := by decide +kernel
theorem dX6_layTree_184 : decode cX6_layTree 184 = .ok (.istore 8, 2) := by decide +kernel
theorem dX6_layTree_186 : decode cX6_layTree 186 = .ok (.iload 8, 2) := by decide +kernel
theorem dX6_layTree_188 : decode cX6_layTree 188 = .ok (.aload_n 0, 1) := by decide +kernel
theorem dX6_layTree_189 : decode cX6_layTree 189 = .ok (.getfield 66, 3) := by decide +kernel
theorem dX6_layTree_192 : decode cX6_layTree 192 = .ok (.if_icmp .ge 40, 3) := by decide +kernel
theorem dX6_layTree_195 : decode cX6_layTree 195 = .ok (.aload_n 0, 1) := by decide +kernel
theorem dX6_layTree_196 : decode cX6_layTree 196 = .ok (.getfield 53, 3) := by decide +kernel
theorem dX6_layTree_199 : decode cX6_layTree 199 = .ok (.iload 8, 2) := by decide +kernel
theorem dX6_layTree_201 : decode cX6_layTree 201 = .ok (.aload_n 0, 1) := by decide +kernel
theorem dX6_layTree_202 : decode cX6_layTree 202 = .ok (.getfield 53, 3) := by decide +kernel
theorem dX6_layTree_205 : decode cX6_layTree 205 = .ok (.iload 8, 2) := by decide +kernel
theorem dX6_layTree_207 : decode cX6_layTree 207 = .ok (.iaload, 1) := by decide +kernel
theorem dX6_layTree_208 : decode cX6_layTree 208 = .ok (.iload 6, 2) := by decide +kernel
theorem dX6_layTree_210 : decode cX6_layTree 210 = .ok (.if_icmp .ne 8, 3) := by decide +kernel
theorem dX6_layTree_213 : decode cX6_layTree 213 = .ok (.iload 7, 2) := by decide +kernel
theorem dX6_layTree_215 : decode cX6_layTree 215 = .ok (.goto 10, 3) := by decide +kernel
theorem dX6_layTree_218 : decode cX6_layTree 218 = .ok (.aload_n 0, 1) := by decide +kernel
theorem dX6_layTree_219 : decode cX6_layTree 219 = .ok (.getfield 53, 3) := by decide +kernel
theorem dX6_layTree_222 : decode cX6_layTree 222 = .ok (.iload 8, 2) := by decide +kernel
theorem dX6_layTree_224 : decode cX6_layTree 224 = .ok (.iaload, 1) := by decide +kernel
theorem dX6_layTree_225 : decode cX6_layTree 225 = .ok (.iastore, 1) := by decide +kernel
theorem dX6_layTree_226 : decode cX6_layTree 226 = .ok (.iinc 8 1, 3) := by decide +kernel
theorem dX6_layTree_229 : decode cX6_layTree 229 = .ok (.goto (-43), 3) := by decide +kernel
theorem dX6_layTree_232 : decode cX6_layTree 232 = .ok (.iinc 4 1, 3) := by decide +kernel
theorem dX6_layTree_235 : decode cX6_layTree 235 = .ok (.goto (-200), 3) := by decide +kernel
theorem dX6_layTree_238 : decode cX6_layTree 238 = .ok (.iload_n 3, 1) := by decide +kernel
theorem dX6_layTree_239 : decode cX6_layTree 239 = .ok (.ireturn, 1) := by decide +kernel
theorem dX6_tree_0 : decode cX6_tree 0 = .ok (.iload_n 1, 1) := by decide +kernel
theorem dX6_tree_1 : decode cX6_tree 1 = .ok (.invokestatic 90, 3) := by decide +kernel
theorem dX6_tree_4 : decode cX6_tree 4 = .ok (.ifCond .eq 19, 3) := by decide +kernel
theorem dX6_tree_7 : decode cX6_tree 7 = .ok (.iload_n 2, 1) := by decide +kernel
theorem dX6_tree_8 : decode cX6_tree 8 = .ok (.invokestatic 117, 3) := by decide +kernel
theorem dX6_tree_11 : decode cX6_tree 11 = .ok (.ifCond .eq 12, 3) := by decide +kernel
theorem dX6_tree_14 : decode cX6_tree 14 = .ok (.aload_n 0, 1) := by decide +kernel
theorem dX6_tree_15 : decode cX6_tree 15 = .ok (.iload_n 1, 1) := by decide +kernel
theorem dX6_tree_16 : decode cX6_tree 16 = .ok (.iload_n 2, 1) := by decide +kernel
theorem dX6_tree_17 : decode cX6_tree 17 = .ok (.invokevirtual 151, 3) := by decide +kernel
theorem dX6_tree_20 : decode cX6_tree 20 = .ok (.goto 5, 3) := by decide +kernel
theorem dX6_tree_23 : decode cX6_tree 23 = .ok (.bipush (-2), 2) := by decide +kernel
theorem dX6_tree_25 : decode cX6_tree 25 = .ok (.ireturn, 1) := by decide +kernel
theorem dX6_row_0 : decode cX6_row 0 = .ok (.iload_n 2, 1) := by decide +kernel
theorem dX6_row_1 : decode cX6_row 1 = .ok (.invokestatic 90, 3) := by decide +kernel
theorem dX6_row_4 : decode cX6_row 4 = .ok (.ifCond .eq 10, 3) := by decide +kernel
theorem dX6_row_7 : decode cX6_row 7 = .ok (.iload_n 3, 1) := by decide +kernel
theorem dX6_row_8 : decode cX6_row 8 = .ok (.invokestatic 117, 3) := by decide +kernel
theorem dX6_row_11 : decode cX6_row 11 = .ok (.ifCond .ne 6, 3) := by decide +kernel
theorem dX6_row_14 : decode cX6_row 14 = .ok (.bipush (-2), 2) := by decide +kernel
theorem dX6_row_16 : decode cX6_row 16 = .ok (.ireturn, 1) := by decide +kernel
theorem dX6_row_17 : decode cX6_row 17 = .ok (.aload_n 0, 1) := by decide +kernel
theorem dX6_row_18 : decode cX6_row 18 = .ok (.iload_n 2, 1) := by decide +kernel
theorem dX6_row_19 : decode cX6_row 19 = .ok (.iload_n 3, 1) := by decide +kernel
theorem dX6_row_20 : decode cX6_row 20 = .ok (.invokevirtual 151, 3) := by decide +kernel
theorem dX6_row_23 : decode cX6_row 23 = .ok (.istore 4, 2) := by decide +kernel
theorem dX6_row_25 : decode cX6_row 25 = .ok (.iload_n 1, 1) := by decide +kernel
theorem dX6_row_26 : decode cX6_row 26 = .ok (.iconst 0, 1) := by decide +kernel
theorem dX6_row_27 : decode cX6_row 27 = .ok (.aload_n 0, 1) := by decide +kernel
theorem dX6_row_28 : decode cX6_row 28 = .ok (.getfield 66, 3) := by decide +kernel
theorem dX6_row_31 : decode cX6_row 31 = .ok (.iconst 2, 1) := by decide +kernel
theorem dX6_row_32 : decode cX6_row 32 = .ok (.isub, 1) := by decide +kernel
theorem dX6_row_33 : decode cX6_row 33 = .ok (.invokestatic 59, 3) := by decide +kernel
theorem dX6_row_36 : decode cX6_row 36 = .ok (.ifCond .eq 12, 3) := by decide +kernel
theorem dX6_row_39 : decode cX6_row 39 = .ok (.aload_n 0, 1) := by decide +kernel
theorem dX6_row_40 : decode cX6_row 40 = .ok (.getfield 56, 3) := by decide +kernel
theorem dX6_row_43 : decode cX6_row 43 = .ok (.iload_n 1, 1) := by decide +kernel
theorem dX6_row_44 : decode cX6_row 44 = .ok (.iaload, 1) := by decide +kernel
theorem dX6_row_45 : decode cX6_row 45 = .ok (.goto 5, 3) := by decide +kernel
theorem dX6_row_48 : decode cX6_row 48 = .ok (.bipush (-9), 2) := by decide +kernel
theorem dX6_row_50 : decode cX6_row 50 = .ok (.ireturn, 1) := by decide +kernel
theorem dX6_count_0 : decode cX6_count 0 = .ok (.iconst 0, 1) := by decide +kernel
theorem dX6_count_1 : decode cX6_count 1 = .ok (.istore_n 2, 1) := by decide +kernel
theorem dX6_count_2 : decode cX6_count 2 = .ok (.iconst 0, 1) := by decide +kernel
theorem dX6_count_3 : decode cX6_count 3 = .ok (.istore_n 3, 1) := by decide +kernel
theorem dX6_count_4 : decode cX6_count 4 = .ok (.iconst 0, 1) := by decide +kernel
theorem dX6_count_5 : decode cX6_count 5 = .ok (.istore 4, 2) := by decide +kernel
theorem dX6_count_7 : decode cX6_count 7 = .ok (.iload 4, 2) := by decide +kernel
theorem dX6_count_9 : decode cX6_count 9 = .ok (.aload_n 0, 1) := by decide +kernel
theorem dX6_count_10 : decode cX6_count 10 = .ok (.getfield 66, 3) := by decide +kernel
theorem dX6_count_13 : decode cX6_count 13 = .ok (.if_icmp .ge 19, 3) := by decide +kernel
theorem dX6_count_16 : decode cX6_count 16 = .ok (.iload_n 2, 1) := by decide +kernel
theorem dX6_count_17 : decode cX6_count 17 = .ok (.aload_n 0, 1) := by decide +kernel
theorem dX6_count_18 : decode cX6_count 18 = .ok (.getfield 26, 3) := by decide +kernel
theorem dX6_count_21 : decode cX6_count 21 = .ok (.iload 4, 2) := by decide +kernel
theorem dX6_count_23 : decode cX6_count 23 = .ok (.iaload, 1) := by decide +kernel
theorem dX6_count_24 : decode cX6_count 24 = .ok (.iadd, 1) := by decide +kernel
theorem dX6_count_25 : decode cX6_count 25 = .ok (.istore_n 2, 1) := by decide +kernel
theorem dX6_count_26 : decode cX6_count 26 = .ok (.iinc 4 1, 3) := by decide +kernel
theorem dX6_count_29 : decode cX6_count 29 = .ok (.goto (-22), 3) := by decide +kernel
theorem dX6_count_32 : decode cX6_count 32 = .ok (.iconst 0, 1) := by decide +kernel
theorem dX6_count_33 : decode cX6_count 33 = .ok (.istore 4, 2) := by decide +kernel
theorem dX6_count_35 : decode cX6_count 35 = .ok (.iload 4, 2) := by decide +kernel
theorem dX6_count_37 : decode cX6_count 37 = .ok (.aload_n 0, 1) := by decide +kernel
theorem dX6_count_38 : decode cX6_count 38 = .ok (.getfield 63, 3) := by decide +kernel
theorem dX6_count_41 : decode cX6_count 41 = .ok (.if_icmp .ge 31, 3) := by decide +kernel
theorem dX6_count_44 : decode cX6_count 44 = .ok (.iload_n 3, 1) := by decide +kernel
theorem dX6_count_45 : decode cX6_count 45 = .ok (.aload_n 0, 1) := by decide +kernel
theorem dX6_count_46 : decode cX6_count 46 = .ok (.getfield 19, 3) := by decide +kernel
theorem dX6_count_49 : decode cX6_count 49 = .ok (.iload 4, 2) := by decide +kernel
theorem dX6_count_51 : decode cX6_count 51 = .ok (.iaload, 1) := by decide +kernel
theorem dX6_count_52 : decode cX6_count 52 = .ok (.aload_n 0, 1) := by decide +kernel
theorem dX6_count_53 : decode cX6_count 53 = .ok (.getfield 22, 3) := by decide +kernel
theorem dX6_count_56 : decode cX6_count 56 = .ok (.if_icmp .gt 7, 3) := by decide +kernel
theorem dX6_count_59 : decode cX6_count 59 = .ok (.iconst 1, 1) := by decide +kernel
theorem dX6_count_60 : decode cX6_count 60 = .ok (.goto 4, 3) := by decide +kernel
theorem dX6_count_63 : decode cX6_count 63 = .ok (.iconst 0, 1) := by decide +kernel
theorem dX6_count_64 : decode cX6_count 64 = .ok (.iadd, 1) := by decide +kernel
theorem dX6_count_65 : decode cX6_count 65 = .ok (.istore_n 3, 1) := by decide +kernel
theorem dX6_count_66 : decode cX6_count 66 = .ok (.iinc 4 1, 3) := by decide +kernel
theorem dX6_count_69 : decode cX6_count 69 = .ok (.goto (-34), 3) := by decide +kernel
theorem dX6_count_72 : decode cX6_count 72 = .ok (.iload_n 1, 1) := by decide +kernel
theorem dX6_count_73 : decode cX6_count 73 = .ok (.ifCond .ne 10, 3) := by decide +kernel
theorem dX6_count_76 : decode cX6_count 76 = .ok (.aload_n 0, 1) := by decide +kernel
theorem dX6_count_77 : decode cX6_count 77 = .ok (.getfield 63, 3) := by decide +kernel
theorem dX6_count_80 : decode cX6_count 80 = .ok (.goto 35, 3) := by decide +kernel
theorem dX6_count_83 : decode cX6_count 83 = .ok (.iload_n 1, 1) := by decide +kernel
theorem dX6_count_84 : decode cX6_count 84 = .ok (.iconst 1, 1) := by decide +kernel
theorem dX6_count_85 : decode cX6_count 85 = .ok (.if_icmp .ne 10, 3) := by decide +kernel
theorem dX6_count_88 : decode cX6_count 88 = .ok (.aload_n 0, 1) := by decide +kernel
theorem dX6_count_89 : decode cX6_count 89 = .ok (.getfield 66, 3) := by decide +kernel
theorem dX6_count_92 : decode cX6_count 92 = .ok (.goto 23, 3) := by decide +kernel
theorem dX6_count_95 : decode cX6_count 95 = .ok (.iload_n 1, 1) := by decide +kernel
theorem dX6_count_96 : decode cX6_count 96 = .ok (.iconst 2, 1) := by decide +kernel
theorem dX6_count_97 : decode cX6_count 97 = .ok (.if_icmp .ne 7, 3) := by decide +kernel
theorem dX6_count_100 : decode cX6_count 100 = .ok (.iload_n 2, 1) := by decide +kernel
theorem dX6_count_101 : decode cX6_count 101 = .ok (.goto 14, 3) := by decide +kernel
theorem dX6_count_104 : decode cX6_count 104 = .ok (.iload_n 1, 1) := by decide +kernel
theorem dX6_count_105 : decode cX6_count 105 = .ok (.iconst 3, 1) := by decide +kernel
theorem dX6_count_106 : decode cX6_count 106 = .ok (.if_icmp .ne 7, 3) := by decide +kernel
theorem dX6_count_109 : decode cX6_count 109 = .ok (.iload_n 3, 1) := by decide +kernel
theorem dX6_count_110 : decode cX6_count 110 = .ok (.goto 5, 3) := by decide +kernel
theorem dX6_count_113 : decode cX6_count 113 = .ok (.bipush (-2), 2) := by decide +kernel
theorem dX6_count_115 : decode cX6_count 115 = .ok (.ireturn, 1) := by decide +kernel
theorem dJ9_floorDiv_7cf53_0 : decode cJ9_floorDiv_7cf53 0 = .ok (.iload_n 0, 1) := by decide +kernel
theorem dJ9_floorDiv_7cf53_1 : decode cJ9_floorDiv_7cf53 1 = .ok (.iload_n 1, 1) := by decide +kernel
theorem dJ9_floorDiv_7cf53_2 : decode cJ9_floorDiv_7cf53 2 = .ok (.idiv, 1) := by decide +kernel
theorem dJ9_floorDiv_7cf53_3 : decode cJ9_floorDiv_7cf53 3 = .ok (.istore_n 2, 1) := by decide +kernel
theorem dJ9_floorDiv_7cf53_4 : decode cJ9_floorDiv_7cf53 4 = .ok (.iload_n 0, 1) := by decide +kernel
theorem dJ9_floorDiv_7cf53_5 : decode cJ9_floorDiv_7cf53 5 = .ok (.iload_n 1, 1) := by decide +kernel
theorem dJ9_floorDiv_7cf53_6 : decode cJ9_floorDiv_7cf53 6 = .ok (.ixor, 1) := by decide +kernel
theorem dJ9_floorDiv_7cf53_7 : decode cJ9_floorDiv_7cf53 7 = .ok (.ifCond .ge 14, 3) := by decide +kernel
theorem dJ9_floorDiv_7cf53_10 : decode cJ9_floorDiv_7cf53 10 = .ok (.iload_n 2, 1) := by decide +kernel
theorem dJ9_floorDiv_7cf53_11 : decode cJ9_floorDiv_7cf53 11 = .ok (.iload_n 1, 1) := by decide +kernel
theorem dJ9_floorDiv_7cf53_12 : decode cJ9_floorDiv_7cf53 12 = .ok (.imul, 1) := by decide +kernel
theorem dJ9_floorDiv_7cf53_13 : decode cJ9_floorDiv_7cf53 13 = .ok (.iload_n 0, 1) := by decide +kernel
theorem dJ9_floorDiv_7cf53_14 : decode cJ9_floorDiv_7cf53 14 = .ok (.if_icmp .eq 7, 3) := by decide +kernel
theorem dJ9_floorDiv_7cf53_17 : decode cJ9_floorDiv_7cf53 17 = .ok (.iload_n 2, 1) := by decide +kernel
theorem dJ9_floorDiv_7cf53_18 : decode cJ9_floorDiv_7cf53 18 = .ok (.iconst 1, 1) := by decide +kernel
theorem dJ9_floorDiv_7cf53_19 : decode cJ9_floorDiv_7cf53 19 = .ok (.isub, 1) := by decide +kernel
theorem dJ9_floorDiv_7cf53_20 : decode cJ9_floorDiv_7cf53 20 = .ok (.ireturn, 1) := by decide +kernel
theorem dJ9_floorDiv_7cf53_21 : decode cJ9_floorDiv_7cf53 21 = .ok (.iload_n 2, 1) := by decide +kernel
theorem dJ9_floorDiv_7cf53_22 : decode cJ9_floorDiv_7cf53 22 = .ok (.ireturn, 1) := by decide +kernel
theorem dJ9_floorMod_7cf53_0 : decode cJ9_floorMod_7cf53 0 = .ok (.iload_n 0, 1) := by decide +kernel
theorem dJ9_floorMod_7cf53_1 : decode cJ9_floorMod_7cf53 1 = .ok (.iload_n 1, 1) := by decide +kernel
theorem dJ9_floorMod_7cf53_2 : decode cJ9_floorMod_7cf53 2 = .ok (.irem, 1) := by decide +kernel
theorem dJ9_floorMod_7cf53_3 : decode cJ9_floorMod_7cf53 3 = .ok (.istore_n 2, 1) := by decide +kernel
theorem dJ9_floorMod_7cf53_4 : decode cJ9_floorMod_7cf53 4 = .ok (.iload_n 0, 1) := by decide +kernel
theorem dJ9_floorMod_7cf53_5 : decode cJ9_floorMod_7cf53 5 = .ok (.iload_n 1, 1) := by decide +kernel
theorem dJ9_floorMod_7cf53_6 : decode cJ9_floorMod_7cf53 6 = .ok (.ixor, 1) := by decide +kernel
theorem dJ9_floorMod_7cf53_7 : decode cJ9_floorMod_7cf53 7 = .ok (.ifCond .ge 11, 3) := by decide +kernel
theorem dJ9_floorMod_7cf53_10 : decode cJ9_floorMod_7cf53 10 = .ok (.iload_n 2, 1) := by decide +kernel
theorem dJ9_floorMod_7cf53_11 : decode cJ9_floorMod_7cf53 11 = .ok (.ifCond .eq 7, 3) := by decide +kernel
theorem dJ9_floorMod_7cf53_14 : decode cJ9_floorMod_7cf53 14 = .ok (.iload_n 2, 1) := by decide +kernel
theorem dJ9_floorMod_7cf53_15 : decode cJ9_floorMod_7cf53 15 = .ok (.iload_n 1, 1) := by decide +kernel
theorem dJ9_floorMod_7cf53_16 : decode cJ9_floorMod_7cf53 16 = .ok (.iadd, 1) := by decide +kernel
theorem dJ9_floorMod_7cf53_17 : decode cJ9_floorMod_7cf53 17 = .ok (.ireturn, 1) := by decide +kernel
theorem dJ9_floorMod_7cf53_18 : decode cJ9_floorMod_7cf53 18 = .ok (.iload_n 2, 1) := by decide +kernel
theorem dJ9_floorMod_7cf53_19 : decode cJ9_floorMod_7cf53 19 = .ok (.ireturn, 1) := by decide +kernel
theorem dJ9_abs_0f7a4_0 : decode cJ9_abs_0f7a4 0 = .ok (.iload_n 0, 1) := by decide +kernel
theorem dJ9_abs_0f7a4_1 : decode cJ9_abs_0f7a4 1 = .ok (.ifCond .ge 8, 3) := by decide +kernel
theorem dJ9_abs_0f7a4_4 : decode cJ9_abs_0f7a4 4 = .ok (.iload_n 0, 1) := by decide +kernel
theorem dJ9_abs_0f7a4_5 : decode cJ9_abs_0f7a4 5 = .ok (.ineg, 1) := by decide +kernel
theorem dJ9_abs_0f7a4_6 : decode cJ9_abs_0f7a4 6 = .ok (.goto 4, 3) := by decide +kernel
theorem dJ9_abs_0f7a4_9 : decode cJ9_abs_0f7a4 9 = .ok (.iload_n 0, 1) := by decide +kernel
theorem dJ9_abs_0f7a4_10 : decode cJ9_abs_0f7a4 10 = .ok (.ireturn, 1) := by decide +kernel
theorem dJ9_min_7cf53_0 : decode cJ9_min_7cf53 0 = .ok (.iload_n 0, 1) := by decide +kernel
theorem dJ9_min_7cf53_1 : decode cJ9_min_7cf53 1 = .ok (.iload_n 1, 1) := by decide +kernel
theorem dJ9_min_7cf53_2 : decode cJ9_min_7cf53 2 = .ok (.if_icmp .gt 7, 3) := by decide +kernel
theorem dJ9_min_7cf53_5 : decode cJ9_min_7cf53 5 = .ok (.iload_n 0, 1) := by decide +kernel
theorem dJ9_min_7cf53_6 : decode cJ9_min_7cf53 6 = .ok (.goto 4, 3) := by decide +kernel
theorem dJ9_min_7cf53_9 : decode cJ9_min_7cf53 9 = .ok (.iload_n 1, 1) := by decide +kernel
theorem dJ9_min_7cf53_10 : decode cJ9_min_7cf53 10 = .ok (.ireturn, 1) := by decide +kernel
theorem dJ9_min_f86c9_0 : decode cJ9_min_f86c9 0 = .ok (.lload_n 0, 1) := by decide +kernel
theorem dJ9_min_f86c9_1 : decode cJ9_min_f86c9 1 = .ok (.lload_n 2, 1) := by decide +kernel
theorem dJ9_min_f86c9_2 : decode cJ9_min_f86c9 2 = .ok (.lcmp, 1) := by decide +kernel
theorem dJ9_min_f86c9_3 : decode cJ9_min_f86c9 3 = .ok (.ifCond .gt 7, 3) := by decide +kernel
theorem dJ9_min_f86c9_6 : decode cJ9_min_f86c9 6 = .ok (.lload_n 0, 1) := by decide +kernel
theorem dJ9_min_f86c9_7 : decode cJ9_min_f86c9 7 = .ok (.goto 4, 3) := by decide +kernel
theorem dJ9_min_f86c9_10 : decode cJ9_min_f86c9 10 = .ok (.lload_n 2, 1) := by decide +kernel
theorem dJ9_min_f86c9_11 : decode cJ9_min_f86c9 11 = .ok (.lreturn, 1) := by decide +kernel
theorem dJ7_fill_d0a16_0 : decode cJ7_fill_d0a16 0 = .ok (.iconst 0, 1) := by decide +kernel
theorem dJ7_fill_d0a16_1 : decode cJ7_fill_d0a16 1 = .ok (.istore_n 3, 1) := by decide +kernel
theorem dJ7_fill_d0a16_2 : decode cJ7_fill_d0a16 2 = .ok (.aload_n 0, 1) := by decide +kernel
theorem dJ7_fill_d0a16_3 : decode cJ7_fill_d0a16 3 = .ok (.arraylength, 1) := by decide +kernel
theorem dJ7_fill_d0a16_4 : decode cJ7_fill_d0a16 4 = .ok (.istore 4, 2) := by decide +kernel
theorem dJ7_fill_d0a16_6 : decode cJ7_fill_d0a16 6 = .ok (.iload_n 3, 1) := by decide +kernel
theorem dJ7_fill_d0a16_7 : decode cJ7_fill_d0a16 7 = .ok (.iload 4, 2) := by decide +kernel
theorem dJ7_fill_d0a16_9 : decode cJ7_fill_d0a16 9 = .ok (.if_icmp .ge 13, 3) := by decide +kernel
theorem dJ7_fill_d0a16_12 : decode cJ7_fill_d0a16 12 = .ok (.aload_n 0, 1) := by decide +kernel
theorem dJ7_fill_d0a16_13 : decode cJ7_fill_d0a16 13 = .ok (.iload_n 3, 1) := by decide +kernel
theorem dJ7_fill_d0a16_14 : decode cJ7_fill_d0a16 14 = .ok (.lload_n 1, 1) := by decide +kernel
theorem dJ7_fill_d0a16_15 : decode cJ7_fill_d0a16 15 = .ok (.lastore, 1) := by decide +kernel
theorem dJ7_fill_d0a16_16 : decode cJ7_fill_d0a16 16 = .ok (.iinc 3 1, 3) := by decide +kernel
theorem dJ7_fill_d0a16_19 : decode cJ7_fill_d0a16 19 = .ok (.goto (-13), 3) := by decide +kernel
theorem dJ7_fill_d0a16_22 : decode cJ7_fill_d0a16 22 = .ok (.return_, 1) := by decide +kernel
