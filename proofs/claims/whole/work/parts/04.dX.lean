theorem dX0_init_0 : decode cX0_init 0 = .ok (.aload_n 0, 1) := by decide +kernel
theorem dX0_init_1 : decode cX0_init 1 = .ok (.invokespecial 3, 3) := by decide +kernel
theorem dX0_init_4 : decode cX0_init 4 = .ok (.aload_n 0, 1) := by decide +kernel
theorem dX0_init_5 : decode cX0_init 5 = .ok (.iconst 0, 1) := by decide +kernel
theorem dX0_init_6 : decode cX0_init 6 = .ok (.putfield 9, 3) := by decide +kernel
theorem dX0_init_9 : decode cX0_init 9 = .ok (.aload_n 0, 1) := by decide +kernel
theorem dX0_init_10 : decode cX0_init 10 = .ok (.bipush 16, 2) := by decide +kernel
theorem dX0_init_12 : decode cX0_init 12 = .ok (.newarray .int, 2) := by decide +kernel
theorem dX0_init_14 : decode cX0_init 14 = .ok (.putfield 15, 3) := by decide +kernel
theorem dX0_init_17 : decode cX0_init 17 = .ok (.aload_n 0, 1) := by decide +kernel
theorem dX0_init_18 : decode cX0_init 18 = .ok (.bipush 10, 2) := by decide +kernel
theorem dX0_init_20 : decode cX0_init 20 = .ok (.newarray .int, 2) := by decide +kernel
theorem dX0_init_22 : decode cX0_init 22 = .ok (.putfield 19, 3) := by decide +kernel
theorem dX0_init_25 : decode cX0_init 25 = .ok (.aload_n 0, 1) := by decide +kernel
theorem dX0_init_26 : decode cX0_init 26 = .ok (.bipush 10, 2) := by decide +kernel
theorem dX0_init_28 : decode cX0_init 28 = .ok (.newarray .int, 2) := by decide +kernel
theorem dX0_init_30 : decode cX0_init 30 = .ok (.putfield 22, 3) := by decide +kernel
theorem dX0_init_33 : decode cX0_init 33 = .ok (.aload_n 0, 1) := by decide +kernel
theorem dX0_init_34 : decode cX0_init 34 = .ok (.bipush 16, 2) := by decide +kernel
theorem dX0_init_36 : decode cX0_init 36 = .ok (.newarray .int, 2) := by decide +kernel
theorem dX0_init_38 : decode cX0_init 38 = .ok (.putfield 25, 3) := by decide +kernel
theorem dX0_init_41 : decode cX0_init 41 = .ok (.return_, 1) := by decide +kernel
set_option maxRecDepth 20000 in
theorem ggX0_settleOn_X7_bowlOn : GoodIn wsX0_settleOn wsX7_bowlOn := goodIn_r _ [13, 14, 15, 16, 17, 18, 49, 50, 51, 52, 53, 54, 55, 56, 57, 58, 59, 60] (by decide +kernel) (by decide +kernel)
set_option maxRecDepth 20000 in
theorem gX0_settleOn_X7_bowlOn : GoodIn wsX0_settleOn (wsV RX0 31 RX7 yX7_bowlOn wsX7_bowlOn) := goodIn_app (goodIn_of _ (by decide +kernel)) ggX0_settleOn_X7_bowlOn
set_option maxRecDepth 20000 in
theorem ggX0_settleOn_X7_standsOn : GoodIn wsX0_settleOn wsX7_standsOn := goodIn_r _ [22, 23, 24, 25, 26, 17, 27, 28, 29, 30, 31, 32, 33, 34, 16, 18, 49, 50, 51, 52, 53, 54, 55, 56, 57, 58, 59, 60] (by decide +kernel) (by decide +kernel)
set_option maxRecDepth 20000 in
theorem gX0_settleOn_X7_standsOn : GoodIn wsX0_settleOn (wsV RX0 35 RX7 yX7_standsOn wsX7_standsOn) := goodIn_app (goodIn_of _ (by decide +kernel)) ggX0_settleOn_X7_standsOn
set_option maxRecDepth 20000 in
theorem ggX0_settleOn_X8_isUnder : GoodIn wsX0_settleOn wsX8_isUnder := goodIn_r _ [36, 37] (by decide +kernel) (by decide +kernel)
set_option maxRecDepth 20000 in
theorem gX0_settleOn_X8_isUnder_n41 : GoodIn wsX0_settleOn (wsX8_isUnder) := ggX0_settleOn_X8_isUnder
set_option maxRecDepth 20000 in
theorem ggX0_settleOn_X7_fastsOn : GoodIn wsX0_settleOn wsX7_fastsOn := goodIn_r _ [41, 42, 43, 32, 17, 33, 49, 50, 51, 52, 53, 54, 55, 56, 57, 58, 59, 60] (by decide +kernel) (by decide +kernel)
set_option maxRecDepth 20000 in
theorem gX0_settleOn_X7_fastsOn : GoodIn wsX0_settleOn (wsV RX0 48 RX7 yX7_fastsOn wsX7_fastsOn) := goodIn_app (goodIn_of _ (by decide +kernel)) ggX0_settleOn_X7_fastsOn
set_option maxRecDepth 20000 in
theorem ggX0_settleOn_X0_shineOf : GoodIn wsX0_settleOn wsX0_shineOf := goodIn_r _ [47, 48, 16, 17, 18] (by decide +kernel) (by decide +kernel)
set_option maxRecDepth 20000 in
theorem gX0_settleOn_X0_shineOf : GoodIn wsX0_settleOn (va_wsS RX0 51 yX0_shineOf wsX0_shineOf) := goodIn_app (goodIn_of _ (by decide +kernel)) ggX0_settleOn_X0_shineOf
theorem dX0_settleOn_0 : decode cX0_settleOn 0 = .ok (.aload_n 0, 1) := by decide +kernel
theorem dX0_settleOn_1 : decode cX0_settleOn 1 = .ok (.aload_n 1, 1) := by decide +kernel
theorem dX0_settleOn_2 : decode cX0_settleOn 2 = .ok (.getfield 28, 3) := by decide +kernel
theorem dX0_settleOn_5 : decode cX0_settleOn 5 = .ok (.putfield 9, 3) := by decide +kernel
theorem dX0_settleOn_8 : decode cX0_settleOn 8 = .ok (.iconst 0, 1) := by decide +kernel
theorem dX0_settleOn_9 : decode cX0_settleOn 9 = .ok (.istore_n 3, 1) := by decide +kernel
theorem dX0_settleOn_10 : decode cX0_settleOn 10 = .ok (.iload_n 3, 1) := by decide +kernel
theorem dX0_settleOn_11 : decode cX0_settleOn 11 = .ok (.bipush 16, 2) := by decide +kernel
theorem dX0_settleOn_13 : decode cX0_settleOn 13 = .ok (.if_icmp .ge 28, 3) := by decide +kernel
theorem dX0_settleOn_16 : decode cX0_settleOn 16 = .ok (.aload_n 0, 1) := by decide +kernel
theorem dX0_settleOn_17 : decode cX0_settleOn 17 = .ok (.getfield 15, 3) := by decide +kernel
theorem dX0_settleOn_20 : decode cX0_settleOn 20 = .ok (.iload_n 3, 1) := by decide +kernel
theorem dX0_settleOn_21 : decode cX0_settleOn 21 = .ok (.aload_n 1, 1) := by decide +kernel
theorem dX0_settleOn_22 : decode cX0_settleOn 22 = .ok (.iload_n 3, 1) := by decide +kernel
theorem dX0_settleOn_23 : decode cX0_settleOn 23 = .ok (.iload_n 2, 1) := by decide +kernel
theorem dX0_settleOn_24 : decode cX0_settleOn 24 = .ok (.invokevirtual 31, 3) := by decide +kernel
theorem dX0_settleOn_27 : decode cX0_settleOn 27 = .ok (.iastore, 1) := by decide +kernel
theorem dX0_settleOn_28 : decode cX0_settleOn 28 = .ok (.aload_n 0, 1) := by decide +kernel
theorem dX0_settleOn_29 : decode cX0_settleOn 29 = .ok (.getfield 25, 3) := by decide +kernel
theorem dX0_settleOn_32 : decode cX0_settleOn 32 = .ok (.iload_n 3, 1) := by decide +kernel
theorem dX0_settleOn_33 : decode cX0_settleOn 33 = .ok (.iconst 0, 1) := by decide +kernel
theorem dX0_settleOn_34 : decode cX0_settleOn 34 = .ok (.iastore, 1) := by decide +kernel
theorem dX0_settleOn_35 : decode cX0_settleOn 35 = .ok (.iinc 3 1, 3) := by decide +kernel
theorem dX0_settleOn_38 : decode cX0_settleOn 38 = .ok (.goto (-28), 3) := by decide +kernel
theorem dX0_settleOn_41 : decode cX0_settleOn 41 = .ok (.iconst 0, 1) := by decide +kernel
theorem dX0_settleOn_42 : decode cX0_settleOn 42 = .ok (.istore_n 3, 1) := by decide +kernel
theorem dX0_settleOn_43 : decode cX0_settleOn 43 = .ok (.iload_n 3, 1) := by decide +kernel
theorem dX0_settleOn_44 : decode cX0_settleOn 44 = .ok (.aload_n 0, 1) := by decide +kernel
theorem dX0_settleOn_45 : decode cX0_settleOn 45 = .ok (.getfield 9, 3) := by decide +kernel
theorem dX0_settleOn_48 : decode cX0_settleOn 48 = .ok (.if_icmp .ge 49, 3) := by decide +kernel
theorem dX0_settleOn_51 : decode cX0_settleOn 51 = .ok (.aload_n 0, 1) := by decide +kernel
theorem dX0_settleOn_52 : decode cX0_settleOn 52 = .ok (.getfield 19, 3) := by decide +kernel
theorem dX0_settleOn_55 : decode cX0_settleOn 55 = .ok (.iload_n 3, 1) := by decide +kernel
theorem dX0_settleOn_56 : decode cX0_settleOn 56 = .ok (.aload_n 1, 1) := by decide +kernel
theorem dX0_settleOn_57 : decode cX0_settleOn 57 = .ok (.iload_n 3, 1) := by decide +kernel
theorem dX0_settleOn_58 : decode cX0_settleOn 58 = .ok (.iload_n 2, 1) := by decide +kernel
theorem dX0_settleOn_59 : decode cX0_settleOn 59 = .ok (.invokevirtual 35, 3) := by decide +kernel
theorem dX0_settleOn_62 : decode cX0_settleOn 62 = .ok (.iastore, 1) := by decide +kernel
theorem dX0_settleOn_63 : decode cX0_settleOn 63 = .ok (.aload_n 1, 1) := by decide +kernel
theorem dX0_settleOn_64 : decode cX0_settleOn 64 = .ok (.getfield 38, 3) := by decide +kernel
theorem dX0_settleOn_67 : decode cX0_settleOn 67 = .ok (.iload_n 3, 1) := by decide +kernel
theorem dX0_settleOn_68 : decode cX0_settleOn 68 = .ok (.iaload, 1) := by decide +kernel
theorem dX0_settleOn_69 : decode cX0_settleOn 69 = .ok (.iconst 1, 1) := by decide +kernel
theorem dX0_settleOn_70 : decode cX0_settleOn 70 = .ok (.invokestatic 41, 3) := by decide +kernel
theorem dX0_settleOn_73 : decode cX0_settleOn 73 = .ok (.ifCond .eq 18, 3) := by decide +kernel
theorem dX0_settleOn_76 : decode cX0_settleOn 76 = .ok (.aload_n 0, 1) := by decide +kernel
theorem dX0_settleOn_77 : decode cX0_settleOn 77 = .ok (.getfield 25, 3) := by decide +kernel
theorem dX0_settleOn_80 : decode cX0_settleOn 80 = .ok (.aload_n 0, 1) := by decide +kernel
theorem dX0_settleOn_81 : decode cX0_settleOn 81 = .ok (.getfield 19, 3) := by decide +kernel
theorem dX0_settleOn_84 : decode cX0_settleOn 84 = .ok (.iload_n 3, 1) := by decide +kernel
theorem dX0_settleOn_85 : decode cX0_settleOn 85 = .ok (.iaload, 1) := by decide +kernel
theorem dX0_settleOn_86 : decode cX0_settleOn 86 = .ok (.dup2, 1) := by decide +kernel
theorem dX0_settleOn_87 : decode cX0_settleOn 87 = .ok (.iaload, 1) := by decide +kernel
theorem dX0_settleOn_88 : decode cX0_settleOn 88 = .ok (.iconst 1, 1) := by decide +kernel
theorem dX0_settleOn_89 : decode cX0_settleOn 89 = .ok (.iadd, 1) := by decide +kernel
theorem dX0_settleOn_90 : decode cX0_settleOn 90 = .ok (.iastore, 1) := by decide +kernel
theorem dX0_settleOn_91 : decode cX0_settleOn 91 = .ok (.iinc 3 1, 3) := by decide +kernel
theorem dX0_settleOn_94 : decode cX0_settleOn 94 = .ok (.goto (-51), 3) := by decide +kernel
theorem dX0_settleOn_97 : decode cX0_settleOn 97 = .ok (.iconst 0, 1) := by decide +kernel
theorem dX0_settleOn_98 : decode cX0_settleOn 98 = .ok (.istore_n 3, 1) := by decide +kernel
theorem dX0_settleOn_99 : decode cX0_settleOn 99 = .ok (.iload_n 3, 1) := by decide +kernel
theorem dX0_settleOn_100 : decode cX0_settleOn 100 = .ok (.aload_n 0, 1) := by decide +kernel
theorem dX0_settleOn_101 : decode cX0_settleOn 101 = .ok (.getfield 9, 3) := by decide +kernel
theorem dX0_settleOn_104 : decode cX0_settleOn 104 = .ok (.if_icmp .ge 47, 3) := by decide +kernel
theorem dX0_settleOn_107 : decode cX0_settleOn 107 = .ok (.aload_n 0, 1) := by decide +kernel
theorem dX0_settleOn_108 : decode cX0_settleOn 108 = .ok (.getfield 22, 3) := by decide +kernel
theorem dX0_settleOn_111 : decode cX0_settleOn 111 = .ok (.iload_n 3, 1) := by decide +kernel
theorem dX0_settleOn_112 : decode cX0_settleOn 112 = .ok (.aload_n 1, 1) := by decide +kernel
theorem dX0_settleOn_113 : decode cX0_settleOn 113 = .ok (.getfield 38, 3) := by decide +kernel
theorem dX0_settleOn_116 : decode cX0_settleOn 116 = .ok (.iload_n 3, 1) := by decide +kernel
theorem dX0_settleOn_117 : decode cX0_settleOn 117 = .ok (.iaload, 1) := by decide +kernel
theorem dX0_settleOn_118 : decode cX0_settleOn 118 = .ok (.aload_n 1, 1) := by decide +kernel
theorem dX0_settleOn_119 : decode cX0_settleOn 119 = .ok (.getfield 45, 3) := by decide +kernel
theorem dX0_settleOn_122 : decode cX0_settleOn 122 = .ok (.iload_n 3, 1) := by decide +kernel
theorem dX0_settleOn_123 : decode cX0_settleOn 123 = .ok (.iaload, 1) := by decide +kernel
theorem dX0_settleOn_124 : decode cX0_settleOn 124 = .ok (.aload_n 1, 1) := by decide +kernel
theorem dX0_settleOn_125 : decode cX0_settleOn 125 = .ok (.iload_n 3, 1) := by decide +kernel
theorem dX0_settleOn_126 : decode cX0_settleOn 126 = .ok (.iload_n 2, 1) := by decide +kernel
theorem dX0_settleOn_127 : decode cX0_settleOn 127 = .ok (.invokevirtual 48, 3) := by decide +kernel
theorem dX0_settleOn_130 : decode cX0_settleOn 130 = .ok (.aload_n 0, 1) := by decide +kernel
theorem dX0_settleOn_131 : decode cX0_settleOn 131 = .ok (.getfield 25, 3) := by decide +kernel
theorem dX0_settleOn_134 : decode cX0_settleOn 134 = .ok (.aload_n 0, 1) := by decide +kernel
theorem dX0_settleOn_135 : decode cX0_settleOn 135 = .ok (.getfield 19, 3) := by decide +kernel
theorem dX0_settleOn_138 : decode cX0_settleOn 138 = .ok (.iload_n 3, 1) := by decide +kernel
theorem dX0_settleOn_139 : decode cX0_settleOn 139 = .ok (.iaload, 1) := by decide +kernel
theorem dX0_settleOn_140 : decode cX0_settleOn 140 = .ok (.iaload, 1) := by decide +kernel
theorem dX0_settleOn_141 : decode cX0_settleOn 141 = .ok (.invokestatic 51, 3) := by decide +kernel
theorem dX0_settleOn_144 : decode cX0_settleOn 144 = .ok (.iastore, 1) := by decide +kernel
theorem dX0_settleOn_145 : decode cX0_settleOn 145 = .ok (.iinc 3 1, 3) := by decide +kernel
theorem dX0_settleOn_148 : decode cX0_settleOn 148 = .ok (.goto (-49), 3) := by decide +kernel
theorem dX0_settleOn_151 : decode cX0_settleOn 151 = .ok (.return_, 1) := by decide +kernel
theorem dX0_shineOf_0 : decode cX0_shineOf 0 = .ok (.iconst 0, 1) := by decide +kernel
theorem dX0_shineOf_1 : decode cX0_shineOf 1 = .ok (.iload_n 1, 1) := by decide +kernel
theorem dX0_shineOf_2 : decode cX0_shineOf 2 = .ok (.iload_n 2, 1) := by decide +kernel
theorem dX0_shineOf_3 : decode cX0_shineOf 3 = .ok (.isub, 1) := by decide +kernel
theorem dX0_shineOf_4 : decode cX0_shineOf 4 = .ok (.invokestatic 55, 3) := by decide +kernel
theorem dX0_shineOf_7 : decode cX0_shineOf 7 = .ok (.istore 4, 2) := by decide +kernel
theorem dX0_shineOf_9 : decode cX0_shineOf 9 = .ok (.iload_n 3, 1) := by decide +kernel
theorem dX0_shineOf_10 : decode cX0_shineOf 10 = .ok (.iconst 1, 1) := by decide +kernel
theorem dX0_shineOf_11 : decode cX0_shineOf 11 = .ok (.if_icmp .le 13, 3) := by decide +kernel
theorem dX0_shineOf_14 : decode cX0_shineOf 14 = .ok (.iload 4, 2) := by decide +kernel
theorem dX0_shineOf_16 : decode cX0_shineOf 16 = .ok (.iload 4, 2) := by decide +kernel
theorem dX0_shineOf_18 : decode cX0_shineOf 18 = .ok (.iconst 2, 1) := by decide +kernel
theorem dX0_shineOf_19 : decode cX0_shineOf 19 = .ok (.idiv, 1) := by decide +kernel
theorem dX0_shineOf_20 : decode cX0_shineOf 20 = .ok (.iadd, 1) := by decide +kernel
theorem dX0_shineOf_21 : decode cX0_shineOf 21 = .ok (.goto 5, 3) := by decide +kernel
theorem dX0_shineOf_24 : decode cX0_shineOf 24 = .ok (.iload 4, 2) := by decide +kernel
theorem dX0_shineOf_26 : decode cX0_shineOf 26 = .ok (.istore 5, 2) := by decide +kernel
theorem dX0_shineOf_28 : decode cX0_shineOf 28 = .ok (.iload_n 0, 1) := by decide +kernel
theorem dX0_shineOf_29 : decode cX0_shineOf 29 = .ok (.tableswitch 70 0 5 #[39, 42, 45, 58, 63, 68], 39) := by decide +kernel
theorem dX0_shineOf_68 : decode cX0_shineOf 68 = .ok (.iload 4, 2) := by decide +kernel
theorem dX0_shineOf_70 : decode cX0_shineOf 70 = .ok (.ireturn, 1) := by decide +kernel
theorem dX0_shineOf_71 : decode cX0_shineOf 71 = .ok (.iload 5, 2) := by decide +kernel
theorem dX0_shineOf_73 : decode cX0_shineOf 73 = .ok (.ireturn, 1) := by decide +kernel
theorem dX0_shineOf_74 : decode cX0_shineOf 74 = .ok (.iload_n 2, 1) := by decide +kernel
theorem dX0_shineOf_75 : decode cX0_shineOf 75 = .ok (.bipush 6, 2) := by decide +kernel
theorem dX0_shineOf_77 : decode cX0_shineOf 77 = .ok (.if_icmp .lt 7, 3) := by decide +kernel
theorem dX0_shineOf_80 : decode cX0_shineOf 80 = .ok (.iconst 0, 1) := by decide +kernel
theorem dX0_shineOf_81 : decode cX0_shineOf 81 = .ok (.goto 5, 3) := by decide +kernel
theorem dX0_shineOf_84 : decode cX0_shineOf 84 = .ok (.iload 4, 2) := by decide +kernel
theorem dX0_shineOf_86 : decode cX0_shineOf 86 = .ok (.ireturn, 1) := by decide +kernel
theorem dX0_shineOf_87 : decode cX0_shineOf 87 = .ok (.iconst 3, 1) := by decide +kernel
theorem dX0_shineOf_88 : decode cX0_shineOf 88 = .ok (.iload 4, 2) := by decide +kernel
theorem dX0_shineOf_90 : decode cX0_shineOf 90 = .ok (.imul, 1) := by decide +kernel
theorem dX0_shineOf_91 : decode cX0_shineOf 91 = .ok (.ireturn, 1) := by decide +kernel
theorem dX0_shineOf_92 : decode cX0_shineOf 92 = .ok (.iconst 2, 1) := by decide +kernel
theorem dX0_shineOf_93 : decode cX0_shineOf 93 = .ok (.iload 5, 2) := by decide +kernel
theorem dX0_shineOf_95 : decode cX0_shineOf 95 = .ok (.imul, 1) := by decide +kernel
theorem dX0_shineOf_96 : decode cX0_shineOf 96 = .ok (.ireturn, 1) := by decide +kernel
theorem dX0_shineOf_97 : decode cX0_shineOf 97 = .ok (.iconst 0, 1) := by decide +kernel
theorem dX0_shineOf_98 : decode cX0_shineOf 98 = .ok (.ireturn, 1) := by decide +kernel
theorem dX0_shineOf_99 : decode cX0_shineOf 99 = .ok (.iconst 0, 1) := by decide +kernel
theorem dX0_shineOf_100 : decode cX0_shineOf 100 = .ok (.ireturn, 1) := by decide +kernel
set_option maxRecDepth 20000 in
theorem ggX0_givesTo_X8_stepsBetween : GoodIn wsX0_givesTo wsX8_stepsBetween := goodIn_r _ [5, 6, 7, 8, 9] (by decide +kernel) (by decide +kernel)
set_option maxRecDepth 20000 in
theorem gX0_givesTo_X8_stepsBetween_n60 : GoodIn wsX0_givesTo (wsX8_stepsBetween) := ggX0_givesTo_X8_stepsBetween
theorem dX0_givesTo_0 : decode cX0_givesTo 0 = .ok (.aload_n 0, 1) := by decide +kernel
theorem dX0_givesTo_1 : decode cX0_givesTo 1 = .ok (.getfield 22, 3) := by decide +kernel
theorem dX0_givesTo_4 : decode cX0_givesTo 4 = .ok (.iload_n 1, 1) := by decide +kernel
theorem dX0_givesTo_5 : decode cX0_givesTo 5 = .ok (.iaload, 1) := by decide +kernel
theorem dX0_givesTo_6 : decode cX0_givesTo 6 = .ok (.aload_n 0, 1) := by decide +kernel
theorem dX0_givesTo_7 : decode cX0_givesTo 7 = .ok (.getfield 19, 3) := by decide +kernel
theorem dX0_givesTo_10 : decode cX0_givesTo 10 = .ok (.iload_n 1, 1) := by decide +kernel
theorem dX0_givesTo_11 : decode cX0_givesTo 11 = .ok (.iaload, 1) := by decide +kernel
theorem dX0_givesTo_12 : decode cX0_givesTo 12 = .ok (.iload_n 2, 1) := by decide +kernel
theorem dX0_givesTo_13 : decode cX0_givesTo 13 = .ok (.invokestatic 60, 3) := by decide +kernel
theorem dX0_givesTo_16 : decode cX0_givesTo 16 = .ok (.ishr, 1) := by decide +kernel
theorem dX0_givesTo_17 : decode cX0_givesTo 17 = .ok (.ireturn, 1) := by decide +kernel
set_option maxRecDepth 20000 in
theorem ggX0_lightOf_X0_givesTo : GoodIn wsX0_lightOf wsX0_givesTo := goodIn_r _ [7, 8, 9, 10, 11, 12, 13, 14, 15, 16, 17, 18, 19, 20, 21] (by decide +kernel) (by decide +kernel)
set_option maxRecDepth 20000 in
theorem gX0_lightOf_X0_givesTo : GoodIn wsX0_lightOf (wsV RX0 63 RX0 yX0_givesTo wsX0_givesTo) := goodIn_app (goodIn_of _ (by decide +kernel)) ggX0_lightOf_X0_givesTo
theorem dX0_lightOf_0 : decode cX0_lightOf 0 = .ok (.aload_n 0, 1) := by decide +kernel
theorem dX0_lightOf_1 : decode cX0_lightOf 1 = .ok (.getfield 15, 3) := by decide +kernel
theorem dX0_lightOf_4 : decode cX0_lightOf 4 = .ok (.iload_n 1, 1) := by decide +kernel
theorem dX0_lightOf_5 : decode cX0_lightOf 5 = .ok (.iaload, 1) := by decide +kernel
theorem dX0_lightOf_6 : decode cX0_lightOf 6 = .ok (.istore_n 2, 1) := by decide +kernel
theorem dX0_lightOf_7 : decode cX0_lightOf 7 = .ok (.iconst 0, 1) := by decide +kernel
theorem dX0_lightOf_8 : decode cX0_lightOf 8 = .ok (.istore_n 3, 1) := by decide +kernel
theorem dX0_lightOf_9 : decode cX0_lightOf 9 = .ok (.iload_n 3, 1) := by decide +kernel
theorem dX0_lightOf_10 : decode cX0_lightOf 10 = .ok (.aload_n 0, 1) := by decide +kernel
theorem dX0_lightOf_11 : decode cX0_lightOf 11 = .ok (.getfield 9, 3) := by decide +kernel
theorem dX0_lightOf_14 : decode cX0_lightOf 14 = .ok (.if_icmp .ge 18, 3) := by decide +kernel
theorem dX0_lightOf_17 : decode cX0_lightOf 17 = .ok (.iload_n 2, 1) := by decide +kernel
theorem dX0_lightOf_18 : decode cX0_lightOf 18 = .ok (.aload_n 0, 1) := by decide +kernel
theorem dX0_lightOf_19 : decode cX0_lightOf 19 = .ok (.iload_n 3, 1) := by decide +kernel
theorem dX0_lightOf_20 : decode cX0_lightOf 20 = .ok (.iload_n 1, 1) := by decide +kernel
theorem dX0_lightOf_21 : decode cX0_lightOf 21 = .ok (.invokevirtual 63, 3) := by decide +kernel
theorem dX0_lightOf_24 : decode cX0_lightOf 24 = .ok (.iadd, 1) := by decide +kernel
theorem dX0_lightOf_25 : decode cX0_lightOf 25 = .ok (.istore_n 2, 1) := by decide +kernel
theorem dX0_lightOf_26 : decode cX0_lightOf 26 = .ok (.iinc 3 1, 3) := by decide +kernel
theorem dX0_lightOf_29 : decode cX0_lightOf 29 = .ok (.goto (-20), 3) := by decide +kernel
theorem dX0_lightOf_32 : decode cX0_lightOf 32 = .ok (.iload_n 2, 1) := by decide +kernel
theorem dX0_lightOf_33 : decode cX0_lightOf 33 = .ok (.ireturn, 1) := by decide +kernel
set_option maxRecDepth 20000 in
theorem ggX0_isOut_X8_sumOf : GoodIn wsX0_isOut wsX8_sumOf := goodIn_r _ [6] (by decide +kernel) (by decide +kernel)
set_option maxRecDepth 20000 in
theorem gX0_isOut_X8_sumOf_n66 : GoodIn wsX0_isOut (wsX8_sumOf) := ggX0_isOut_X8_sumOf
theorem dX0_isOut_0 : decode cX0_isOut 0 = .ok (.aload_n 0, 1) := by decide +kernel
theorem dX0_isOut_1 : decode cX0_isOut 1 = .ok (.getfield 15, 3) := by decide +kernel
theorem dX0_isOut_4 : decode cX0_isOut 4 = .ok (.bipush 16, 2) := by decide +kernel
theorem dX0_isOut_6 : decode cX0_isOut 6 = .ok (.invokestatic 66, 3) := by decide +kernel
theorem dX0_isOut_9 : decode cX0_isOut 9 = .ok (.ifCond .ne 21, 3) := by decide +kernel
theorem dX0_isOut_12 : decode cX0_isOut 12 = .ok (.aload_n 0, 1) := by decide +kernel
theorem dX0_isOut_13 : decode cX0_isOut 13 = .ok (.getfield 22, 3) := by decide +kernel
theorem dX0_isOut_16 : decode cX0_isOut 16 = .ok (.aload_n 0, 1) := by decide +kernel
theorem dX0_isOut_17 : decode cX0_isOut 17 = .ok (.getfield 9, 3) := by decide +kernel
theorem dX0_isOut_20 : decode cX0_isOut 20 = .ok (.invokestatic 66, 3) := by decide +kernel
theorem dX0_isOut_23 : decode cX0_isOut 23 = .ok (.ifCond .ne 7, 3) := by decide +kernel
theorem dX0_isOut_26 : decode cX0_isOut 26 = .ok (.iconst 1, 1) := by decide +kernel
theorem dX0_isOut_27 : decode cX0_isOut 27 = .ok (.goto 4, 3) := by decide +kernel
theorem dX0_isOut_30 : decode cX0_isOut 30 = .ok (.iconst 0, 1) := by decide +kernel
theorem dX0_isOut_31 : decode cX0_isOut 31 = .ok (.ireturn, 1) := by decide +kernel
theorem dX1_init_0 : decode cX1_init 0 = .ok (.aload_n 0, 1) := by decide +kernel
theorem dX1_init_1 : decode cX1_init 1 = .ok (.invokespecial 3, 3) := by decide +kernel
theorem dX1_init_4 : decode cX1_init 4 = .ok (.aload_n 0, 1) := by decide +kernel
theorem dX1_init_5 : decode cX1_init 5 = .ok (.bipush 16, 2) := by decide +kernel
theorem dX1_init_7 : decode cX1_init 7 = .ok (.newarray .long, 2) := by decide +kernel
theorem dX1_init_9 : decode cX1_init 9 = .ok (.putfield 9, 3) := by decide +kernel
theorem dX1_init_12 : decode cX1_init 12 = .ok (.aload_n 0, 1) := by decide +kernel
theorem dX1_init_13 : decode cX1_init 13 = .ok (.sipush 160, 3) := by decide +kernel
theorem dX1_init_16 : decode cX1_init 16 = .ok (.newarray .int, 2) := by decide +kernel
theorem dX1_init_18 : decode cX1_init 18 = .ok (.putfield 15, 3) := by decide +kernel
theorem dX1_init_21 : decode cX1_init 21 = .ok (.return_, 1) := by decide +kernel
set_option maxRecDepth 20000 in
theorem ggX1_countSets_X3_places : GoodIn wsX1_countSets wsX3_places := goodIn_r _ [10, 11, 12, 13, 14, 15, 43, 44, 45] (by decide +kernel) (by decide +kernel)
set_option maxRecDepth 20000 in
theorem gX1_countSets_X3_places : GoodIn wsX1_countSets (wsV RX1 19 RX3 yX3_places wsX3_places) := goodIn_app (goodIn_of _ (by decide +kernel)) ggX1_countSets_X3_places
set_option maxRecDepth 20000 in
theorem ggX1_countSets_X0_givesTo : GoodIn wsX1_countSets wsX0_givesTo := goodIn_r _ [20, 21, 22, 23, 24, 25, 26, 27, 14, 28, 46, 47, 48, 49, 50] (by decide +kernel) (by decide +kernel)
set_option maxRecDepth 20000 in
theorem gX1_countSets_X0_givesTo : GoodIn wsX1_countSets (wsV RX1 37 RX0 yX0_givesTo wsX0_givesTo) := goodIn_app (goodIn_of _ (by decide +kernel)) ggX1_countSets_X0_givesTo
set_option maxRecDepth 20000 in
theorem ggX1_countSets_X1_isJust : GoodIn wsX1_countSets wsX1_isJust := goodIn_r _ [33, 1, 41, 42] (by decide +kernel) (by decide +kernel)
set_option maxRecDepth 20000 in
theorem gX1_countSets_X1_isJust : GoodIn wsX1_countSets (wsV RX1 41 RX1 yX1_isJust wsX1_isJust) := goodIn_app (goodIn_of _ (by decide +kernel)) ggX1_countSets_X1_isJust
set_option maxRecDepth 20000 in
theorem ggX1_countSets_X1_lowestBit : GoodIn wsX1_countSets wsX1_lowestBit := goodIn_r _ [36] (by decide +kernel) (by decide +kernel)
set_option maxRecDepth 20000 in
theorem gX1_countSets_X1_lowestBit : GoodIn wsX1_countSets (va_wsS RX1 45 yX1_lowestBit wsX1_lowestBit) := goodIn_app (goodIn_of _ (by decide +kernel)) ggX1_countSets_X1_lowestBit
set_option maxRecDepth 20000 in
theorem ggX1_countSets_X1_change : GoodIn wsX1_countSets wsX1_change := goodIn_r _ [40, 1, 5, 41, 42] (by decide +kernel) (by decide +kernel)
set_option maxRecDepth 20000 in
theorem gX1_countSets_X1_change : GoodIn wsX1_countSets (wsV RX1 49 RX1 yX1_change wsX1_change) := goodIn_app (goodIn_of _ (by decide +kernel)) ggX1_countSets_X1_change
theorem dX1_countSets_0 : decode cX1_countSets 0 = .ok (.aload_n 2, 1) := by decide +kernel
theorem dX1_countSets_1 : decode cX1_countSets 1 = .ok (.invokevirtual 19, 3) := by decide +kernel
theorem dX1_countSets_4 : decode cX1_countSets 4 = .ok (.istore_n 3, 1) := by decide +kernel
theorem dX1_countSets_5 : decode cX1_countSets 5 = .ok (.iconst 0, 1) := by decide +kernel
theorem dX1_countSets_6 : decode cX1_countSets 6 = .ok (.istore 4, 2) := by decide +kernel
theorem dX1_countSets_8 : decode cX1_countSets 8 = .ok (.iload 4, 2) := by decide +kernel
theorem dX1_countSets_10 : decode cX1_countSets 10 = .ok (.iload_n 3, 1) := by decide +kernel
theorem dX1_countSets_11 : decode cX1_countSets 11 = .ok (.if_icmp .ge 32, 3) := by decide +kernel
theorem dX1_countSets_14 : decode cX1_countSets 14 = .ok (.aload_n 0, 1) := by decide +kernel
theorem dX1_countSets_15 : decode cX1_countSets 15 = .ok (.getfield 9, 3) := by decide +kernel
theorem dX1_countSets_18 : decode cX1_countSets 18 = .ok (.iload 4, 2) := by decide +kernel
theorem dX1_countSets_20 : decode cX1_countSets 20 = .ok (.aload_n 2, 1) := by decide +kernel
theorem dX1_countSets_21 : decode cX1_countSets 21 = .ok (.getfield 25, 3) := by decide +kernel
theorem dX1_countSets_24 : decode cX1_countSets 24 = .ok (.iload 4, 2) := by decide +kernel
theorem dX1_countSets_26 : decode cX1_countSets 26 = .ok (.laload, 1) := by decide +kernel
theorem dX1_countSets_27 : decode cX1_countSets 27 = .ok (.aload_n 1, 1) := by decide +kernel
theorem dX1_countSets_28 : decode cX1_countSets 28 = .ok (.getfield 28, 3) := by decide +kernel
theorem dX1_countSets_31 : decode cX1_countSets 31 = .ok (.iload 4, 2) := by decide +kernel
theorem dX1_countSets_33 : decode cX1_countSets 33 = .ok (.iaload, 1) := by decide +kernel
theorem dX1_countSets_34 : decode cX1_countSets 34 = .ok (.i2l, 1) := by decide +kernel
theorem dX1_countSets_35 : decode cX1_countSets 35 = .ok (.lsub, 1) := by decide +kernel
theorem dX1_countSets_36 : decode cX1_countSets 36 = .ok (.lastore, 1) := by decide +kernel
theorem dX1_countSets_37 : decode cX1_countSets 37 = .ok (.iinc 4 1, 3) := by decide +kernel
theorem dX1_countSets_40 : decode cX1_countSets 40 = .ok (.goto (-32), 3) := by decide +kernel
theorem dX1_countSets_43 : decode cX1_countSets 43 = .ok (.iconst 0, 1) := by decide +kernel
theorem dX1_countSets_44 : decode cX1_countSets 44 = .ok (.istore 4, 2) := by decide +kernel
theorem dX1_countSets_46 : decode cX1_countSets 46 = .ok (.iload 4, 2) := by decide +kernel
theorem dX1_countSets_48 : decode cX1_countSets 48 = .ok (.aload_n 1, 1) := by decide +kernel
theorem dX1_countSets_49 : decode cX1_countSets 49 = .ok (.getfield 33, 3) := by decide +kernel
theorem dX1_countSets_52 : decode cX1_countSets 52 = .ok (.if_icmp .ge 45, 3) := by decide +kernel
theorem dX1_countSets_55 : decode cX1_countSets 55 = .ok (.iconst 0, 1) := by decide +kernel
theorem dX1_countSets_56 : decode cX1_countSets 56 = .ok (.istore 5, 2) := by decide +kernel
theorem dX1_countSets_58 : decode cX1_countSets 58 = .ok (.iload 5, 2) := by decide +kernel
theorem dX1_countSets_60 : decode cX1_countSets 60 = .ok (.iload_n 3, 1) := by decide +kernel
theorem dX1_countSets_61 : decode cX1_countSets 61 = .ok (.if_icmp .ge 30, 3) := by decide +kernel
theorem dX1_countSets_64 : decode cX1_countSets 64 = .ok (.aload_n 0, 1) := by decide +kernel
theorem dX1_countSets_65 : decode cX1_countSets 65 = .ok (.getfield 15, 3) := by decide +kernel
theorem dX1_countSets_68 : decode cX1_countSets 68 = .ok (.iload 4, 2) := by decide +kernel
theorem dX1_countSets_70 : decode cX1_countSets 70 = .ok (.bipush 16, 2) := by decide +kernel
theorem dX1_countSets_72 : decode cX1_countSets 72 = .ok (.imul, 1) := by decide +kernel
theorem dX1_countSets_73 : decode cX1_countSets 73 = .ok (.iload 5, 2) := by decide +kernel
theorem dX1_countSets_75 : decode cX1_countSets 75 = .ok (.iadd, 1) := by decide +kernel
theorem dX1_countSets_76 : decode cX1_countSets 76 = .ok (.aload_n 1, 1) := by decide +kernel
theorem dX1_countSets_77 : decode cX1_countSets 77 = .ok (.iload 4, 2) := by decide +kernel
theorem dX1_countSets_79 : decode cX1_countSets 79 = .ok (.iload 5, 2) := by decide +kernel
theorem dX1_countSets_81 : decode cX1_countSets 81 = .ok (.invokevirtual 37, 3) := by decide +kernel
theorem dX1_countSets_84 : decode cX1_countSets 84 = .ok (.iastore, 1) := by decide +kernel
theorem dX1_countSets_85 : decode cX1_countSets 85 = .ok (.iinc 5 1, 3) := by decide +kernel
theorem dX1_countSets_88 : decode cX1_countSets 88 = .ok (.goto (-30), 3) := by decide +kernel
theorem dX1_countSets_91 : decode cX1_countSets 91 = .ok (.iinc 4 1, 3) := by decide +kernel
theorem dX1_countSets_94 : decode cX1_countSets 94 = .ok (.goto (-48), 3) := by decide +kernel
theorem dX1_countSets_97 : decode cX1_countSets 97 = .ok (.aload_n 0, 1) := by decide +kernel
theorem dX1_countSets_98 : decode cX1_countSets 98 = .ok (.iload_n 3, 1) := by decide +kernel
theorem dX1_countSets_99 : decode cX1_countSets 99 = .ok (.invokevirtual 41, 3) := by decide +kernel
theorem dX1_countSets_102 : decode cX1_countSets 102 = .ok (.ifCond .eq 7, 3) := by decide +kernel
theorem dX1_countSets_105 : decode cX1_countSets 105 = .ok (.iconst 1, 1) := by decide +kernel
theorem dX1_countSets_106 : decode cX1_countSets 106 = .ok (.goto 4, 3) := by decide +kernel
theorem dX1_countSets_109 : decode cX1_countSets 109 = .ok (.iconst 0, 1) := by decide +kernel
theorem dX1_countSets_110 : decode cX1_countSets 110 = .ok (.istore 4, 2) := by decide +kernel
theorem dX1_countSets_112 : decode cX1_countSets 112 = .ok (.iconst 0, 1) := by decide +kernel
theorem dX1_countSets_113 : decode cX1_countSets 113 = .ok (.istore 5, 2) := by decide +kernel
theorem dX1_countSets_115 : decode cX1_countSets 115 = .ok (.iconst 1, 1) := by decide +kernel
theorem dX1_countSets_116 : decode cX1_countSets 116 = .ok (.istore 6, 2) := by decide +kernel
theorem dX1_countSets_118 : decode cX1_countSets 118 = .ok (.iload 6, 2) := by decide +kernel
theorem dX1_countSets_120 : decode cX1_countSets 120 = .ok (.iconst 1, 1) := by decide +kernel
theorem dX1_countSets_121 : decode cX1_countSets 121 = .ok (.aload_n 1, 1) := by decide +kernel
theorem dX1_countSets_122 : decode cX1_countSets 122 = .ok (.getfield 33, 3) := by decide +kernel
theorem dX1_countSets_125 : decode cX1_countSets 125 = .ok (.ishl, 1) := by decide +kernel
theorem dX1_countSets_126 : decode cX1_countSets 126 = .ok (.if_icmp .ge 66, 3) := by decide +kernel
theorem dX1_countSets_129 : decode cX1_countSets 129 = .ok (.iload 6, 2) := by decide +kernel
theorem dX1_countSets_131 : decode cX1_countSets 131 = .ok (.invokestatic 45, 3) := by decide +kernel
theorem dX1_countSets_134 : decode cX1_countSets 134 = .ok (.istore 7, 2) := by decide +kernel
theorem dX1_countSets_136 : decode cX1_countSets 136 = .ok (.iload 5, 2) := by decide +kernel
theorem dX1_countSets_138 : decode cX1_countSets 138 = .ok (.iconst 1, 1) := by decide +kernel
theorem dX1_countSets_139 : decode cX1_countSets 139 = .ok (.iload 7, 2) := by decide +kernel
theorem dX1_countSets_141 : decode cX1_countSets 141 = .ok (.ishl, 1) := by decide +kernel
theorem dX1_countSets_142 : decode cX1_countSets 142 = .ok (.ixor, 1) := by decide +kernel
theorem dX1_countSets_143 : decode cX1_countSets 143 = .ok (.istore 5, 2) := by decide +kernel
theorem dX1_countSets_145 : decode cX1_countSets 145 = .ok (.aload_n 0, 1) := by decide +kernel
theorem dX1_countSets_146 : decode cX1_countSets 146 = .ok (.iload 7, 2) := by decide +kernel
theorem dX1_countSets_148 : decode cX1_countSets 148 = .ok (.iload 5, 2) := by decide +kernel
theorem dX1_countSets_150 : decode cX1_countSets 150 = .ok (.iload 7, 2) := by decide +kernel
theorem dX1_countSets_152 : decode cX1_countSets 152 = .ok (.ishr, 1) := by decide +kernel
theorem dX1_countSets_153 : decode cX1_countSets 153 = .ok (.iconst 1, 1) := by decide +kernel
theorem dX1_countSets_154 : decode cX1_countSets 154 = .ok (.iand, 1) := by decide +kernel
theorem dX1_countSets_155 : decode cX1_countSets 155 = .ok (.iconst 1, 1) := by decide +kernel
theorem dX1_countSets_156 : decode cX1_countSets 156 = .ok (.if_icmp .ne 7, 3) := by decide +kernel
theorem dX1_countSets_159 : decode cX1_countSets 159 = .ok (.iconst (-1), 1) := by decide +kernel
theorem dX1_countSets_160 : decode cX1_countSets 160 = .ok (.goto 4, 3) := by decide +kernel
theorem dX1_countSets_163 : decode cX1_countSets 163 = .ok (.iconst 1, 1) := by decide +kernel
theorem dX1_countSets_164 : decode cX1_countSets 164 = .ok (.iload_n 3, 1) := by decide +kernel
theorem dX1_countSets_165 : decode cX1_countSets 165 = .ok (.invokevirtual 49, 3) := by decide +kernel
theorem dX1_countSets_168 : decode cX1_countSets 168 = .ok (.iload 4, 2) := by decide +kernel
theorem dX1_countSets_170 : decode cX1_countSets 170 = .ok (.aload_n 0, 1) := by decide +kernel
theorem dX1_countSets_171 : decode cX1_countSets 171 = .ok (.iload_n 3, 1) := by decide +kernel
theorem dX1_countSets_172 : decode cX1_countSets 172 = .ok (.invokevirtual 41, 3) := by decide +kernel
theorem dX1_countSets_175 : decode cX1_countSets 175 = .ok (.ifCond .eq 7, 3) := by decide +kernel
theorem dX1_countSets_178 : decode cX1_countSets 178 = .ok (.iconst 1, 1) := by decide +kernel
theorem dX1_countSets_179 : decode cX1_countSets 179 = .ok (.goto 4, 3) := by decide +kernel
theorem dX1_countSets_182 : decode cX1_countSets 182 = .ok (.iconst 0, 1) := by decide +kernel
theorem dX1_countSets_183 : decode cX1_countSets 183 = .ok (.iadd, 1) := by decide +kernel
theorem dX1_countSets_184 : decode cX1_countSets 184 = .ok (.istore 4, 2) := by decide +kernel
theorem dX1_countSets_186 : decode cX1_countSets 186 = .ok (.iinc 6 1, 3) := by decide +kernel
theorem dX1_countSets_189 : decode cX1_countSets 189 = .ok (.goto (-71), 3) := by decide +kernel
theorem dX1_countSets_192 : decode cX1_countSets 192 = .ok (.iload 4, 2) := by decide +kernel
theorem dX1_countSets_194 : decode cX1_countSets 194 = .ok (.ireturn, 1) := by decide +kernel
theorem dX1_isJust_0 : decode cX1_isJust 0 = .ok (.iconst 0, 1) := by decide +kernel
theorem dX1_isJust_1 : decode cX1_isJust 1 = .ok (.istore_n 2, 1) := by decide +kernel
theorem dX1_isJust_2 : decode cX1_isJust 2 = .ok (.iload_n 2, 1) := by decide +kernel
theorem dX1_isJust_3 : decode cX1_isJust 3 = .ok (.iload_n 1, 1) := by decide +kernel
theorem dX1_isJust_4 : decode cX1_isJust 4 = .ok (.if_icmp .ge 22, 3) := by decide +kernel
theorem dX1_isJust_7 : decode cX1_isJust 7 = .ok (.aload_n 0, 1) := by decide +kernel
theorem dX1_isJust_8 : decode cX1_isJust 8 = .ok (.getfield 9, 3) := by decide +kernel
theorem dX1_isJust_11 : decode cX1_isJust 11 = .ok (.iload_n 2, 1) := by decide +kernel
theorem dX1_isJust_12 : decode cX1_isJust 12 = .ok (.laload, 1) := by decide +kernel
theorem dX1_isJust_13 : decode cX1_isJust 13 = .ok (.lconst 0, 1) := by decide +kernel
theorem dX1_isJust_14 : decode cX1_isJust 14 = .ok (.lcmp, 1) := by decide +kernel
theorem dX1_isJust_15 : decode cX1_isJust 15 = .ok (.ifCond .eq 5, 3) := by decide +kernel
theorem dX1_isJust_18 : decode cX1_isJust 18 = .ok (.iconst 0, 1) := by decide +kernel
theorem dX1_isJust_19 : decode cX1_isJust 19 = .ok (.ireturn, 1) := by decide +kernel
theorem dX1_isJust_20 : decode cX1_isJust 20 = .ok (.iinc 2 1, 3) := by decide +kernel
theorem dX1_isJust_23 : decode cX1_isJust 23 = .ok (.goto (-21), 3) := by decide +kernel
theorem dX1_isJust_26 : decode cX1_isJust 26 = .ok (.iconst 1, 1) := by decide +kernel
theorem dX1_isJust_27 : decode cX1_isJust 27 = .ok (.ireturn, 1) := by decide +kernel
theorem dX1_change_0 : decode cX1_change 0 = .ok (.iconst 0, 1) := by decide +kernel
theorem dX1_change_1 : decode cX1_change 1 = .ok (.istore 4, 2) := by decide +kernel
theorem dX1_change_3 : decode cX1_change 3 = .ok (.iload 4, 2) := by decide +kernel
theorem dX1_change_5 : decode cX1_change 5 = .ok (.iload_n 3, 1) := by decide +kernel
theorem dX1_change_6 : decode cX1_change 6 = .ok (.if_icmp .ge 34, 3) := by decide +kernel
theorem dX1_change_9 : decode cX1_change 9 = .ok (.aload_n 0, 1) := by decide +kernel
theorem dX1_change_10 : decode cX1_change 10 = .ok (.getfield 9, 3) := by decide +kernel
theorem dX1_change_13 : decode cX1_change 13 = .ok (.iload 4, 2) := by decide +kernel
theorem dX1_change_15 : decode cX1_change 15 = .ok (.dup2, 1) := by decide +kernel
theorem dX1_change_16 : decode cX1_change 16 = .ok (.laload, 1) := by decide +kernel
theorem dX1_change_17 : decode cX1_change 17 = .ok (.iload_n 2, 1) := by decide +kernel
theorem dX1_change_18 : decode cX1_change 18 = .ok (.aload_n 0, 1) := by decide +kernel
theorem dX1_change_19 : decode cX1_change 19 = .ok (.getfield 15, 3) := by decide +kernel
theorem dX1_change_22 : decode cX1_change 22 = .ok (.iload_n 1, 1) := by decide +kernel
theorem dX1_change_23 : decode cX1_change 23 = .ok (.bipush 16, 2) := by decide +kernel
theorem dX1_change_25 : decode cX1_change 25 = .ok (.imul, 1) := by decide +kernel
theorem dX1_change_26 : decode cX1_change 26 = .ok (.iload 4, 2) := by decide +kernel
theorem dX1_change_28 : decode cX1_change 28 = .ok (.iadd, 1) := by decide +kernel
theorem dX1_change_29 : decode cX1_change 29 = .ok (.iaload, 1) := by decide +kernel
theorem dX1_change_30 : decode cX1_change 30 = .ok (.imul, 1) := by decide +kernel
theorem dX1_change_31 : decode cX1_change 31 = .ok (.i2l, 1) := by decide +kernel
theorem dX1_change_32 : decode cX1_change 32 = .ok (.ladd, 1) := by decide +kernel
theorem dX1_change_33 : decode cX1_change 33 = .ok (.lastore, 1) := by decide +kernel
theorem dX1_change_34 : decode cX1_change 34 = .ok (.iinc 4 1, 3) := by decide +kernel
theorem dX1_change_37 : decode cX1_change 37 = .ok (.goto (-34), 3) := by decide +kernel
theorem dX1_change_40 : decode cX1_change 40 = .ok (.return_, 1) := by decide +kernel
theorem dX1_lowestBit_0 : decode cX1_lowestBit 0 = .ok (.iconst 0, 1) := by decide +kernel
theorem dX1_lowestBit_1 : decode cX1_lowestBit 1 = .ok (.istore_n 1, 1) := by decide +kernel
theorem dX1_lowestBit_2 : decode cX1_lowestBit 2 = .ok (.iload_n 1, 1) := by decide +kernel
theorem dX1_lowestBit_3 : decode cX1_lowestBit 3 = .ok (.bipush 9, 2) := by decide +kernel
theorem dX1_lowestBit_5 : decode cX1_lowestBit 5 = .ok (.if_icmp .ge 17, 3) := by decide +kernel
theorem dX1_lowestBit_8 : decode cX1_lowestBit 8 = .ok (.iload_n 0, 1) := by decide +kernel
theorem dX1_lowestBit_9 : decode cX1_lowestBit 9 = .ok (.iload_n 1, 1) := by decide +kernel
theorem dX1_lowestBit_10 : decode cX1_lowestBit 10 = .ok (.ishr, 1) := by decide +kernel
theorem dX1_lowestBit_11 : decode cX1_lowestBit 11 = .ok (.iconst 1, 1) := by decide +kernel
theorem dX1_lowestBit_12 : decode cX1_lowestBit 12 = .ok (.iand, 1) := by decide +kernel
theorem dX1_lowestBit_13 : decode cX1_lowestBit 13 = .ok (.ifCond .ne 9, 3) := by decide +kernel
theorem dX1_lowestBit_16 : decode cX1_lowestBit 16 = .ok (.iinc 1 1, 3) := by decide +kernel
theorem dX1_lowestBit_19 : decode cX1_lowestBit 19 = .ok (.goto (-17), 3) := by decide +kernel
theorem dX1_lowestBit_22 : decode cX1_lowestBit 22 = .ok (.iload_n 1, 1) := by decide +kernel
theorem dX1_lowestBit_23 : decode cX1_lowestBit 23 = .ok (.ireturn, 1) := by decide +kernel
set_option maxRecDepth 20000 in
theorem ggX2_init_X7_init : GoodIn wsX2_init wsX7_init := goodIn_r _ [14, 15, 2, 3, 16, 17, 18, 19, 20, 21, 22, 23, 24, 25, 26, 27, 28, 36, 37, 38, 39, 40, 41, 42, 43, 44, 45, 46, 47] (by decide +kernel) (by decide +kernel)
set_option maxRecDepth 20000 in
theorem gX2_init_X7_init_n11 : GoodIn wsX2_init (wsX7_init) := ggX2_init_X7_init
set_option maxRecDepth 20000 in
theorem ggX2_init_X5_init : GoodIn wsX2_init wsX5_init := goodIn_r _ [30, 31, 2, 3, 17, 32, 33, 34, 35, 51, 52, 53, 54] (by decide +kernel) (by decide +kernel)
set_option maxRecDepth 20000 in
theorem gX2_init_X5_init_n20 : GoodIn wsX2_init (wsX5_init) := ggX2_init_X5_init
theorem dX2_init_0 : decode cX2_init 0 = .ok (.aload_n 0, 1) := by decide +kernel
theorem dX2_init_1 : decode cX2_init 1 = .ok (.invokespecial 3, 3) := by decide +kernel
theorem dX2_init_4 : decode cX2_init 4 = .ok (.aload_n 0, 1) := by decide +kernel
theorem dX2_init_5 : decode cX2_init 5 = .ok (.new 9, 3) := by decide +kernel
theorem dX2_init_8 : decode cX2_init 8 = .ok (.dup, 1) := by decide +kernel
theorem dX2_init_9 : decode cX2_init 9 = .ok (.invokespecial 11, 3) := by decide +kernel
theorem dX2_init_12 : decode cX2_init 12 = .ok (.putfield 12, 3) := by decide +kernel
theorem dX2_init_15 : decode cX2_init 15 = .ok (.aload_n 0, 1) := by decide +kernel
theorem dX2_init_16 : decode cX2_init 16 = .ok (.new 18, 3) := by decide +kernel
theorem dX2_init_19 : decode cX2_init 19 = .ok (.dup, 1) := by decide +kernel
theorem dX2_init_20 : decode cX2_init 20 = .ok (.invokespecial 20, 3) := by decide +kernel
theorem dX2_init_23 : decode cX2_init 23 = .ok (.putfield 21, 3) := by decide +kernel
theorem dX2_init_26 : decode cX2_init 26 = .ok (.aload_n 0, 1) := by decide +kernel
theorem dX2_init_27 : decode cX2_init 27 = .ok (.iconst 0, 1) := by decide +kernel
theorem dX2_init_28 : decode cX2_init 28 = .ok (.putfield 25, 3) := by decide +kernel
theorem dX2_init_31 : decode cX2_init 31 = .ok (.return_, 1) := by decide +kernel
set_option maxRecDepth 20000 in
theorem ggX2_readAll_X7_becomeAs : GoodIn wsX2_readAll wsX7_becomeAs := goodIn_r _ [9, 10, 11, 12, 13, 14, 15, 16, 17, 18, 19, 20, 21, 22, 23, 24, 25, 184, 185, 186, 187, 188, 189, 190, 191, 192, 193, 194, 195] (by decide +kernel) (by decide +kernel)
set_option maxRecDepth 20000 in
theorem gX2_readAll_X7_becomeAs : GoodIn wsX2_readAll (wsV RX2 29 RX7 yX7_becomeAs wsX7_becomeAs) := goodIn_app (goodIn_of _ (by decide +kernel)) ggX2_readAll_X7_becomeAs
set_option maxRecDepth 20000 in
theorem ggX2_readAll_X5_cutOut : GoodIn wsX2_readAll wsX5_cutOut := goodIn_r _ [30, 31, 32, 33, 34, 35, 29, 36, 37, 38, 39, 40, 41, 42, 43, 44, 45, 46, 47, 48, 49, 50, 51, 52, 53, 54, 55, 56, 57, 58, 59, 60, 61, 62, 63, 64, 65, 66, 67, 68, 69, 70, 71, 72, 73, 74, 75, 76, 77, 78, 79, 80, 81, 82, 83, 84, 85, 86, 87, 88, 89, 90, 91, 92, 93, 94, 95, 96, 97, 98, 99, 100, 101, 102, 103, 104, 105, 106, 107, 108, 109, 110, 111, 112, 113, 114, 180, 181, 182, 183, 196, 197] (by decide +kernel) (by decide +kernel)
set_option maxRecDepth 20000 in
theorem gX2_readAll_X5_cutOut : GoodIn wsX2_readAll (wsV RX2 33 RX5 yX5_cutOut wsX5_cutOut) := goodIn_app (goodIn_of _ (by decide +kernel)) ggX2_readAll_X5_cutOut
set_option maxRecDepth 20000 in
theorem ggX2_readAll_X2_takeItem : GoodIn wsX2_readAll wsX2_takeItem := goodIn_r _ [119, 2, 4, 3, 120, 121, 122, 123, 124, 125, 126, 127, 128, 118, 129, 1, 130, 131, 132, 133, 134, 135, 136, 137, 138, 139, 140, 141, 142, 143, 144, 145, 146, 147, 148, 149, 8, 150, 16, 17, 18, 19, 20, 21, 151, 152, 153, 154, 155, 156, 157, 158, 159, 160, 161, 162, 163, 164, 165, 166, 167, 168, 22, 23, 24, 25, 169, 170, 171, 172, 173, 174, 175, 176, 177, 178, 179, 180, 181, 182, 183, 184, 185, 186, 187, 188, 189, 190, 191, 192, 193, 194, 195] (by decide +kernel) (by decide +kernel)
set_option maxRecDepth 20000 in
theorem gX2_readAll_X2_takeItem : GoodIn wsX2_readAll (wsV RX2 37 RX2 yX2_takeItem wsX2_takeItem) := goodIn_app (goodIn_of _ (by decide +kernel)) ggX2_readAll_X2_takeItem
set_option maxRecDepth 20000 in
theorem ggX2_readAll_X2_take : GoodIn wsX2_readAll wsX2_take := goodIn_r _ [137, 2, 4, 3, 177, 178, 179, 180, 181, 182, 183] (by decide +kernel) (by decide +kernel)
set_option maxRecDepth 20000 in
theorem gX2_readAll_X2_take : GoodIn wsX2_readAll (wsV RX2 45 RX2 yX2_take wsX2_take) := goodIn_app (goodIn_of _ (by decide +kernel)) ggX2_readAll_X2_take
theorem dX2_readAll_0 : decode cX2_readAll 0 = .ok (.aload_n 0, 1) := by decide +kernel
theorem dX2_readAll_1 : decode cX2_readAll 1 = .ok (.getfield 12, 3) := by decide +kernel
theorem dX2_readAll_4 : decode cX2_readAll 4 = .ok (.aload_n 2, 1) := by decide +kernel
theorem dX2_readAll_5 : decode cX2_readAll 5 = .ok (.invokevirtual 29, 3) := by decide +kernel
theorem dX2_readAll_8 : decode cX2_readAll 8 = .ok (.aload_n 0, 1) := by decide +kernel
theorem dX2_readAll_9 : decode cX2_readAll 9 = .ok (.getfield 21, 3) := by decide +kernel
theorem dX2_readAll_12 : decode cX2_readAll 12 = .ok (.aload_n 1, 1) := by decide +kernel
theorem dX2_readAll_13 : decode cX2_readAll 13 = .ok (.invokevirtual 33, 3) := by decide +kernel
theorem dX2_readAll_16 : decode cX2_readAll 16 = .ok (.aload_n 0, 1) := by decide +kernel
theorem dX2_readAll_17 : decode cX2_readAll 17 = .ok (.iconst 0, 1) := by decide +kernel
theorem dX2_readAll_18 : decode cX2_readAll 18 = .ok (.putfield 25, 3) := by decide +kernel
theorem dX2_readAll_21 : decode cX2_readAll 21 = .ok (.iconst 1, 1) := by decide +kernel
theorem dX2_readAll_22 : decode cX2_readAll 22 = .ok (.istore_n 3, 1) := by decide +kernel
theorem dX2_readAll_23 : decode cX2_readAll 23 = .ok (.iload_n 3, 1) := by decide +kernel
theorem dX2_readAll_24 : decode cX2_readAll 24 = .ok (.bipush 120, 2) := by decide +kernel
theorem dX2_readAll_26 : decode cX2_readAll 26 = .ok (.if_icmp .gt 48, 3) := by decide +kernel
theorem dX2_readAll_29 : decode cX2_readAll 29 = .ok (.aload_n 0, 1) := by decide +kernel
theorem dX2_readAll_30 : decode cX2_readAll 30 = .ok (.invokevirtual 37, 3) := by decide +kernel
theorem dX2_readAll_33 : decode cX2_readAll 33 = .ok (.ifCond .ne 5, 3) := by decide +kernel
theorem dX2_readAll_36 : decode cX2_readAll 36 = .ok (.iconst 0, 1) := by decide +kernel
theorem dX2_readAll_37 : decode cX2_readAll 37 = .ok (.ireturn, 1) := by decide +kernel
theorem dX2_readAll_38 : decode cX2_readAll 38 = .ok (.aload_n 0, 1) := by decide +kernel
theorem dX2_readAll_39 : decode cX2_readAll 39 = .ok (.getfield 21, 3) := by decide +kernel
theorem dX2_readAll_42 : decode cX2_readAll 42 = .ok (.getfield 41, 3) := by decide +kernel
theorem dX2_readAll_45 : decode cX2_readAll 45 = .ok (.aload_n 0, 1) := by decide +kernel
theorem dX2_readAll_46 : decode cX2_readAll 46 = .ok (.getfield 25, 3) := by decide +kernel
theorem dX2_readAll_49 : decode cX2_readAll 49 = .ok (.iaload, 1) := by decide +kernel
theorem dX2_readAll_50 : decode cX2_readAll 50 = .ok (.bipush 17, 2) := by decide +kernel
theorem dX2_readAll_52 : decode cX2_readAll 52 = .ok (.if_icmp .ne 5, 3) := by decide +kernel
theorem dX2_readAll_55 : decode cX2_readAll 55 = .ok (.iload_n 3, 1) := by decide +kernel
theorem dX2_readAll_56 : decode cX2_readAll 56 = .ok (.ireturn, 1) := by decide +kernel
theorem dX2_readAll_57 : decode cX2_readAll 57 = .ok (.aload_n 0, 1) := by decide +kernel
theorem dX2_readAll_58 : decode cX2_readAll 58 = .ok (.bipush 16, 2) := by decide +kernel
theorem dX2_readAll_60 : decode cX2_readAll 60 = .ok (.invokevirtual 45, 3) := by decide +kernel
theorem dX2_readAll_63 : decode cX2_readAll 63 = .ok (.ifCond .ne 5, 3) := by decide +kernel
theorem dX2_readAll_66 : decode cX2_readAll 66 = .ok (.iconst 0, 1) := by decide +kernel
theorem dX2_readAll_67 : decode cX2_readAll 67 = .ok (.ireturn, 1) := by decide +kernel
theorem dX2_readAll_68 : decode cX2_readAll 68 = .ok (.iinc 3 1, 3) := by decide +kernel
theorem dX2_readAll_71 : decode cX2_readAll 71 = .ok (.goto (-48), 3) := by decide +kernel
theorem dX2_readAll_74 : decode cX2_readAll 74 = .ok (.iconst 0, 1) := by decide +kernel
theorem dX2_readAll_75 : decode cX2_readAll 75 = .ok (.ireturn, 1) := by decide +kernel
theorem dX2_faultPlace_0 : decode cX2_faultPlace 0 = .ok (.aload_n 0, 1) := by decide +kernel
theorem dX2_faultPlace_1 : decode cX2_faultPlace 1 = .ok (.getfield 21, 3) := by decide +kernel
theorem dX2_faultPlace_4 : decode cX2_faultPlace 4 = .ok (.getfield 49, 3) := by decide +kernel
theorem dX2_faultPlace_7 : decode cX2_faultPlace 7 = .ok (.aload_n 0, 1) := by decide +kernel
theorem dX2_faultPlace_8 : decode cX2_faultPlace 8 = .ok (.getfield 25, 3) := by decide +kernel
theorem dX2_faultPlace_11 : decode cX2_faultPlace 11 = .ok (.iaload, 1) := by decide +kernel
theorem dX2_faultPlace_12 : decode cX2_faultPlace 12 = .ok (.ireturn, 1) := by decide +kernel
set_option maxRecDepth 20000 in
theorem ggX2_takeItem_X8_isKind : GoodIn wsX2_takeItem wsX8_isKind := goodIn_r _ [6, 7, 8, 5, 9] (by decide +kernel) (by decide +kernel)
set_option maxRecDepth 20000 in
theorem gX2_takeItem_X8_isKind_n52 : GoodIn wsX2_takeItem (wsX8_isKind) := ggX2_takeItem_X8_isKind
set_option maxRecDepth 20000 in
theorem ggX2_takeItem_X2_takeBeing : GoodIn wsX2_takeItem wsX2_takeBeing := goodIn_r _ [14, 15, 16, 17, 18, 19, 20, 21, 22, 13, 23, 1, 2, 3, 24, 25, 26, 27, 28, 29, 30, 31, 32, 8, 5, 9, 33, 34, 35, 36, 37, 38, 39, 40, 41, 42, 43, 44, 45, 46, 47, 74, 75, 76, 81, 82, 83, 84, 85, 86, 87, 88, 89, 90, 91, 92, 77, 78, 79, 80] (by decide +kernel) (by decide +kernel)
set_option maxRecDepth 20000 in
theorem gX2_takeItem_X2_takeBeing : GoodIn wsX2_takeItem (wsV RX2 55 RX2 yX2_takeBeing wsX2_takeBeing) := goodIn_app (goodIn_of _ (by decide +kernel)) ggX2_takeItem_X2_takeBeing
set_option maxRecDepth 20000 in
theorem ggX2_takeItem_X2_takeBowl : GoodIn wsX2_takeItem wsX2_takeBowl := goodIn_r _ [51, 15, 52, 24, 25, 26, 13, 27, 20, 21, 22, 23, 1, 2, 3, 28, 29, 30, 31, 32, 8, 5, 9, 74, 75, 76, 81, 82, 83, 84, 85, 86, 87, 88, 89, 90, 91, 92, 77, 78, 79, 80] (by decide +kernel) (by decide +kernel)
set_option maxRecDepth 20000 in
theorem gX2_takeItem_X2_takeBowl : GoodIn wsX2_takeItem (wsV RX2 58 RX2 yX2_takeBowl wsX2_takeBowl) := goodIn_app (goodIn_of _ (by decide +kernel)) ggX2_takeItem_X2_takeBowl
set_option maxRecDepth 20000 in
theorem ggX2_takeItem_X2_takeTask : GoodIn wsX2_takeItem wsX2_takeTask := goodIn_r _ [56, 15, 57, 20, 21, 22, 13, 23, 1, 2, 3, 24, 25, 26, 27, 28, 29, 30, 31, 32, 8, 5, 9, 58, 59, 60, 36, 61, 62, 63, 64, 65, 74, 75, 76, 81, 82, 83, 84, 85, 86, 87, 88, 89, 90, 91, 92, 77, 78, 79, 80] (by decide +kernel) (by decide +kernel)
set_option maxRecDepth 20000 in
theorem gX2_takeItem_X2_takeTask : GoodIn wsX2_takeItem (wsV RX2 61 RX2 yX2_takeTask wsX2_takeTask) := goodIn_app (goodIn_of _ (by decide +kernel)) ggX2_takeItem_X2_takeTask
set_option maxRecDepth 20000 in
theorem ggX2_takeItem_X2_takeEating : GoodIn wsX2_takeItem wsX2_takeEating := goodIn_r _ [69, 15, 16, 24, 25, 26, 13, 27, 20, 21, 22, 23, 1, 2, 3, 28, 29, 30, 31, 32, 8, 5, 9, 70, 71, 72, 36, 73, 42, 43, 74, 75, 76, 81, 82, 83, 84, 85, 86, 87, 88, 89, 90, 91, 92, 77, 78, 79, 80] (by decide +kernel) (by decide +kernel)
set_option maxRecDepth 20000 in
theorem gX2_takeItem_X2_takeEating : GoodIn wsX2_takeItem (wsV RX2 64 RX2 yX2_takeEating wsX2_takeEating) := goodIn_app (goodIn_of _ (by decide +kernel)) ggX2_takeItem_X2_takeEating
theorem dX2_takeItem_0 : decode cX2_takeItem 0 = .ok (.aload_n 0, 1) := by decide +kernel
theorem dX2_takeItem_1 : decode cX2_takeItem 1 = .ok (.getfield 21, 3) := by decide +kernel
theorem dX2_takeItem_4 : decode cX2_takeItem 4 = .ok (.getfield 41, 3) := by decide +kernel
theorem dX2_takeItem_7 : decode cX2_takeItem 7 = .ok (.aload_n 0, 1) := by decide +kernel
theorem dX2_takeItem_8 : decode cX2_takeItem 8 = .ok (.getfield 25, 3) := by decide +kernel
theorem dX2_takeItem_11 : decode cX2_takeItem 11 = .ok (.iaload, 1) := by decide +kernel
theorem dX2_takeItem_12 : decode cX2_takeItem 12 = .ok (.istore_n 1, 1) := by decide +kernel
theorem dX2_takeItem_13 : decode cX2_takeItem 13 = .ok (.iload_n 1, 1) := by decide +kernel
theorem dX2_takeItem_14 : decode cX2_takeItem 14 = .ok (.invokestatic 52, 3) := by decide +kernel
theorem dX2_takeItem_17 : decode cX2_takeItem 17 = .ok (.ifCond .eq 9, 3) := by decide +kernel
theorem dX2_takeItem_20 : decode cX2_takeItem 20 = .ok (.aload_n 0, 1) := by decide +kernel
theorem dX2_takeItem_21 : decode cX2_takeItem 21 = .ok (.iload_n 1, 1) := by decide +kernel
theorem dX2_takeItem_22 : decode cX2_takeItem 22 = .ok (.invokevirtual 55, 3) := by decide +kernel
theorem dX2_takeItem_25 : decode cX2_takeItem 25 = .ok (.ireturn, 1) := by decide +kernel
theorem dX2_takeItem_26 : decode cX2_takeItem 26 = .ok (.iload_n 1, 1) := by decide +kernel
theorem dX2_takeItem_27 : decode cX2_takeItem 27 = .ok (.tableswitch 48 10 14 #[33, 38, 48, 48, 43], 33) := by decide +kernel
theorem dX2_takeItem_60 : decode cX2_takeItem 60 = .ok (.aload_n 0, 1) := by decide +kernel
theorem dX2_takeItem_61 : decode cX2_takeItem 61 = .ok (.invokevirtual 58, 3) := by decide +kernel
theorem dX2_takeItem_64 : decode cX2_takeItem 64 = .ok (.ireturn, 1) := by decide +kernel
theorem dX2_takeItem_65 : decode cX2_takeItem 65 = .ok (.aload_n 0, 1) := by decide +kernel
theorem dX2_takeItem_66 : decode cX2_takeItem 66 = .ok (.invokevirtual 61, 3) := by decide +kernel
theorem dX2_takeItem_69 : decode cX2_takeItem 69 = .ok (.ireturn, 1) := by decide +kernel
theorem dX2_takeItem_70 : decode cX2_takeItem 70 = .ok (.aload_n 0, 1) := by decide +kernel
theorem dX2_takeItem_71 : decode cX2_takeItem 71 = .ok (.invokevirtual 64, 3) := by decide +kernel
theorem dX2_takeItem_74 : decode cX2_takeItem 74 = .ok (.ireturn, 1) := by decide +kernel
theorem dX2_takeItem_75 : decode cX2_takeItem 75 = .ok (.iconst 0, 1) := by decide +kernel
theorem dX2_takeItem_76 : decode cX2_takeItem 76 = .ok (.ireturn, 1) := by decide +kernel
set_option maxRecDepth 20000 in
theorem ggX2_takeBeing_X2_take : GoodIn wsX2_takeBeing wsX2_take := goodIn_r _ [10, 11, 12, 13, 41, 42, 43, 56, 57, 58, 59] (by decide +kernel) (by decide +kernel)
set_option maxRecDepth 20000 in
theorem gX2_takeBeing_X2_take : GoodIn wsX2_takeBeing (wsV RX2 45 RX2 yX2_take wsX2_take) := goodIn_app (goodIn_of _ (by decide +kernel)) ggX2_takeBeing_X2_take
set_option maxRecDepth 20000 in
theorem ggX2_takeBeing_X2_takeNumberBehind : GoodIn wsX2_takeBeing wsX2_takeNumberBehind := goodIn_r _ [17, 6, 7, 8, 9, 10, 11, 12, 13, 18, 19, 20, 21, 22, 23, 24, 25, 41, 42, 43, 56, 57, 58, 59] (by decide +kernel) (by decide +kernel)
set_option maxRecDepth 20000 in
theorem gX2_takeBeing_X2_takeNumberBehind : GoodIn wsX2_takeBeing (wsV RX2 70 RX2 yX2_takeNumberBehind wsX2_takeNumberBehind) := goodIn_app (goodIn_of _ (by decide +kernel)) ggX2_takeBeing_X2_takeNumberBehind
set_option maxRecDepth 20000 in
theorem ggX2_takeBeing_X7_addBeing : GoodIn wsX2_takeBeing wsX7_addBeing := goodIn_r _ [30, 31, 32, 33, 34, 35, 36, 44, 45, 46, 47, 48, 49, 50, 51, 52, 53, 54, 55] (by decide +kernel) (by decide +kernel)
set_option maxRecDepth 20000 in
theorem gX2_takeBeing_X7_addBeing : GoodIn wsX2_takeBeing (wsV RX2 74 RX7 yX7_addBeing wsX7_addBeing) := goodIn_app (goodIn_of _ (by decide +kernel)) ggX2_takeBeing_X7_addBeing
set_option maxRecDepth 20000 in
theorem ggX2_takeBeing_X2_takePart : GoodIn wsX2_takeBeing wsX2_takePart := goodIn_r _ [40, 11, 12, 13, 14, 15, 16, 9, 17, 6, 7, 8, 10, 18, 19, 20, 21, 22, 23, 24, 25, 41, 42, 43, 56, 57, 58, 59] (by decide +kernel) (by decide +kernel)
set_option maxRecDepth 20000 in
theorem gX2_takeBeing_X2_takePart : GoodIn wsX2_takeBeing (wsV RX2 81 RX2 yX2_takePart wsX2_takePart) := goodIn_app (goodIn_of _ (by decide +kernel)) ggX2_takeBeing_X2_takePart
theorem dX2_takeBeing_0 : decode cX2_takeBeing 0 = .ok (.aload_n 0, 1) := by decide +kernel
theorem dX2_takeBeing_1 : decode cX2_takeBeing 1 = .ok (.getfield 12, 3) := by decide +kernel
theorem dX2_takeBeing_4 : decode cX2_takeBeing 4 = .ok (.getfield 67, 3) := by decide +kernel
theorem dX2_takeBeing_7 : decode cX2_takeBeing 7 = .ok (.bipush 10, 2) := by decide +kernel
theorem dX2_takeBeing_9 : decode cX2_takeBeing 9 = .ok (.if_icmp .ge 11, 3) := by decide +kernel
theorem dX2_takeBeing_12 : decode cX2_takeBeing 12 = .ok (.aload_n 0, 1) := by decide +kernel
theorem dX2_takeBeing_13 : decode cX2_takeBeing 13 = .ok (.iload_n 1, 1) := by decide +kernel
theorem dX2_takeBeing_14 : decode cX2_takeBeing 14 = .ok (.invokevirtual 45, 3) := by decide +kernel
theorem dX2_takeBeing_17 : decode cX2_takeBeing 17 = .ok (.ifCond .ne 5, 3) := by decide +kernel
theorem dX2_takeBeing_20 : decode cX2_takeBeing 20 = .ok (.iconst 0, 1) := by decide +kernel
theorem dX2_takeBeing_21 : decode cX2_takeBeing 21 = .ok (.ireturn, 1) := by decide +kernel
theorem dX2_takeBeing_22 : decode cX2_takeBeing 22 = .ok (.aload_n 0, 1) := by decide +kernel
theorem dX2_takeBeing_23 : decode cX2_takeBeing 23 = .ok (.bipush 6, 2) := by decide +kernel
theorem dX2_takeBeing_25 : decode cX2_takeBeing 25 = .ok (.iconst 0, 1) := by decide +kernel
theorem dX2_takeBeing_26 : decode cX2_takeBeing 26 = .ok (.bipush 15, 2) := by decide +kernel
theorem dX2_takeBeing_28 : decode cX2_takeBeing 28 = .ok (.invokevirtual 70, 3) := by decide +kernel
theorem dX2_takeBeing_31 : decode cX2_takeBeing 31 = .ok (.istore_n 2, 1) := by decide +kernel
theorem dX2_takeBeing_32 : decode cX2_takeBeing 32 = .ok (.iload_n 2, 1) := by decide +kernel
theorem dX2_takeBeing_33 : decode cX2_takeBeing 33 = .ok (.ifCond .ge 5, 3) := by decide +kernel
theorem dX2_takeBeing_36 : decode cX2_takeBeing 36 = .ok (.iconst 0, 1) := by decide +kernel
theorem dX2_takeBeing_37 : decode cX2_takeBeing 37 = .ok (.ireturn, 1) := by decide +kernel
theorem dX2_takeBeing_38 : decode cX2_takeBeing 38 = .ok (.aload_n 0, 1) := by decide +kernel
theorem dX2_takeBeing_39 : decode cX2_takeBeing 39 = .ok (.getfield 12, 3) := by decide +kernel
theorem dX2_takeBeing_42 : decode cX2_takeBeing 42 = .ok (.iload_n 1, 1) := by decide +kernel
theorem dX2_takeBeing_43 : decode cX2_takeBeing 43 = .ok (.iload_n 2, 1) := by decide +kernel
theorem dX2_takeBeing_44 : decode cX2_takeBeing 44 = .ok (.invokevirtual 74, 3) := by decide +kernel
theorem dX2_takeBeing_47 : decode cX2_takeBeing 47 = .ok (.istore_n 3, 1) := by decide +kernel
theorem dX2_takeBeing_48 : decode cX2_takeBeing 48 = .ok (.aload_n 0, 1) := by decide +kernel
theorem dX2_takeBeing_49 : decode cX2_takeBeing 49 = .ok (.bipush 7, 2) := by decide +kernel
theorem dX2_takeBeing_51 : decode cX2_takeBeing 51 = .ok (.aload_n 0, 1) := by decide +kernel
theorem dX2_takeBeing_52 : decode cX2_takeBeing 52 = .ok (.getfield 12, 3) := by decide +kernel
theorem dX2_takeBeing_55 : decode cX2_takeBeing 55 = .ok (.getfield 78, 3) := by decide +kernel
theorem dX2_takeBeing_58 : decode cX2_takeBeing 58 = .ok (.iload_n 3, 1) := by decide +kernel
theorem dX2_takeBeing_59 : decode cX2_takeBeing 59 = .ok (.bipush 15, 2) := by decide +kernel
theorem dX2_takeBeing_61 : decode cX2_takeBeing 61 = .ok (.invokevirtual 81, 3) := by decide +kernel
theorem dX2_takeBeing_64 : decode cX2_takeBeing 64 = .ok (.ifCond .eq 46, 3) := by decide +kernel
theorem dX2_takeBeing_67 : decode cX2_takeBeing 67 = .ok (.aload_n 0, 1) := by decide +kernel
theorem dX2_takeBeing_68 : decode cX2_takeBeing 68 = .ok (.bipush 8, 2) := by decide +kernel
theorem dX2_takeBeing_70 : decode cX2_takeBeing 70 = .ok (.aload_n 0, 1) := by decide +kernel
theorem dX2_takeBeing_71 : decode cX2_takeBeing 71 = .ok (.getfield 12, 3) := by decide +kernel
theorem dX2_takeBeing_74 : decode cX2_takeBeing 74 = .ok (.getfield 85, 3) := by decide +kernel
theorem dX2_takeBeing_77 : decode cX2_takeBeing 77 = .ok (.iload_n 3, 1) := by decide +kernel
theorem dX2_takeBeing_78 : decode cX2_takeBeing 78 = .ok (.bipush 99, 2) := by decide +kernel
theorem dX2_takeBeing_80 : decode cX2_takeBeing 80 = .ok (.invokevirtual 81, 3) := by decide +kernel
theorem dX2_takeBeing_83 : decode cX2_takeBeing 83 = .ok (.ifCond .eq 27, 3) := by decide +kernel
theorem dX2_takeBeing_86 : decode cX2_takeBeing 86 = .ok (.aload_n 0, 1) := by decide +kernel
theorem dX2_takeBeing_87 : decode cX2_takeBeing 87 = .ok (.bipush 9, 2) := by decide +kernel
theorem dX2_takeBeing_89 : decode cX2_takeBeing 89 = .ok (.aload_n 0, 1) := by decide +kernel
theorem dX2_takeBeing_90 : decode cX2_takeBeing 90 = .ok (.getfield 12, 3) := by decide +kernel
theorem dX2_takeBeing_93 : decode cX2_takeBeing 93 = .ok (.getfield 88, 3) := by decide +kernel
theorem dX2_takeBeing_96 : decode cX2_takeBeing 96 = .ok (.iload_n 3, 1) := by decide +kernel
theorem dX2_takeBeing_97 : decode cX2_takeBeing 97 = .ok (.sipush 999, 3) := by decide +kernel
theorem dX2_takeBeing_100 : decode cX2_takeBeing 100 = .ok (.invokevirtual 81, 3) := by decide +kernel
theorem dX2_takeBeing_103 : decode cX2_takeBeing 103 = .ok (.ifCond .eq 7, 3) := by decide +kernel
theorem dX2_takeBeing_106 : decode cX2_takeBeing 106 = .ok (.iconst 1, 1) := by decide +kernel
theorem dX2_takeBeing_107 : decode cX2_takeBeing 107 = .ok (.goto 4, 3) := by decide +kernel
theorem dX2_takeBeing_110 : decode cX2_takeBeing 110 = .ok (.iconst 0, 1) := by decide +kernel
theorem dX2_takeBeing_111 : decode cX2_takeBeing 111 = .ok (.ireturn, 1) := by decide +kernel
set_option maxRecDepth 20000 in
theorem ggX2_takeBowl_X2_takeNumberBehind : GoodIn wsX2_takeBowl wsX2_takeNumberBehind := goodIn_r _ [7, 8, 9, 10, 6, 11, 12, 13, 14, 15, 16, 17, 18, 19, 20, 21, 22, 23, 24, 25, 38, 39, 40, 41] (by decide +kernel) (by decide +kernel)
set_option maxRecDepth 20000 in
theorem gX2_takeBowl_X2_takeNumberBehind : GoodIn wsX2_takeBowl (wsV RX2 70 RX2 yX2_takeNumberBehind wsX2_takeNumberBehind) := goodIn_app (goodIn_of _ (by decide +kernel)) ggX2_takeBowl_X2_takeNumberBehind
set_option maxRecDepth 20000 in
theorem ggX2_takeBowl_X2_takeNumber : GoodIn wsX2_takeBowl wsX2_takeNumber := goodIn_r _ [18, 12, 19, 14, 20, 21, 22, 8, 9, 10, 6, 11, 13, 23, 24, 25, 38, 39, 40, 41] (by decide +kernel) (by decide +kernel)
set_option maxRecDepth 20000 in
theorem gX2_takeBowl_X2_takeNumber : GoodIn wsX2_takeBowl (wsV RX2 91 RX2 yX2_takeNumber wsX2_takeNumber) := goodIn_app (goodIn_of _ (by decide +kernel)) ggX2_takeBowl_X2_takeNumber
theorem dX2_takeBowl_0 : decode cX2_takeBowl 0 = .ok (.aload_n 0, 1) := by decide +kernel
theorem dX2_takeBowl_1 : decode cX2_takeBowl 1 = .ok (.bipush 10, 2) := by decide +kernel
theorem dX2_takeBowl_3 : decode cX2_takeBowl 3 = .ok (.iconst 0, 1) := by decide +kernel
theorem dX2_takeBowl_4 : decode cX2_takeBowl 4 = .ok (.bipush 15, 2) := by decide +kernel
theorem dX2_takeBowl_6 : decode cX2_takeBowl 6 = .ok (.invokevirtual 70, 3) := by decide +kernel
theorem dX2_takeBowl_9 : decode cX2_takeBowl 9 = .ok (.istore_n 1, 1) := by decide +kernel
theorem dX2_takeBowl_10 : decode cX2_takeBowl 10 = .ok (.iload_n 1, 1) := by decide +kernel
theorem dX2_takeBowl_11 : decode cX2_takeBowl 11 = .ok (.ifCond .ge 5, 3) := by decide +kernel
theorem dX2_takeBowl_14 : decode cX2_takeBowl 14 = .ok (.iconst 0, 1) := by decide +kernel
theorem dX2_takeBowl_15 : decode cX2_takeBowl 15 = .ok (.ireturn, 1) := by decide +kernel
theorem dX2_takeBowl_16 : decode cX2_takeBowl 16 = .ok (.aload_n 0, 1) := by decide +kernel
theorem dX2_takeBowl_17 : decode cX2_takeBowl 17 = .ok (.iconst 0, 1) := by decide +kernel
theorem dX2_takeBowl_18 : decode cX2_takeBowl 18 = .ok (.bipush 99, 2) := by decide +kernel
theorem dX2_takeBowl_20 : decode cX2_takeBowl 20 = .ok (.invokevirtual 91, 3) := by decide +kernel
theorem dX2_takeBowl_23 : decode cX2_takeBowl 23 = .ok (.istore_n 2, 1) := by decide +kernel
theorem dX2_takeBowl_24 : decode cX2_takeBowl 24 = .ok (.iload_n 2, 1) := by decide +kernel
theorem dX2_takeBowl_25 : decode cX2_takeBowl 25 = .ok (.ifCond .ge 5, 3) := by decide +kernel
theorem dX2_takeBowl_28 : decode cX2_takeBowl 28 = .ok (.iconst 0, 1) := by decide +kernel
theorem dX2_takeBowl_29 : decode cX2_takeBowl 29 = .ok (.ireturn, 1) := by decide +kernel
theorem dX2_takeBowl_30 : decode cX2_takeBowl 30 = .ok (.aload_n 0, 1) := by decide +kernel
theorem dX2_takeBowl_31 : decode cX2_takeBowl 31 = .ok (.getfield 12, 3) := by decide +kernel
theorem dX2_takeBowl_34 : decode cX2_takeBowl 34 = .ok (.getfield 94, 3) := by decide +kernel
theorem dX2_takeBowl_37 : decode cX2_takeBowl 37 = .ok (.iload_n 1, 1) := by decide +kernel
theorem dX2_takeBowl_38 : decode cX2_takeBowl 38 = .ok (.iload_n 2, 1) := by decide +kernel
theorem dX2_takeBowl_39 : decode cX2_takeBowl 39 = .ok (.iastore, 1) := by decide +kernel
theorem dX2_takeBowl_40 : decode cX2_takeBowl 40 = .ok (.iconst 1, 1) := by decide +kernel
theorem dX2_takeBowl_41 : decode cX2_takeBowl 41 = .ok (.ireturn, 1) := by decide +kernel
set_option maxRecDepth 20000 in
theorem ggX2_takeTask_X2_take : GoodIn wsX2_takeTask wsX2_take := goodIn_r _ [7, 8, 9, 10, 32, 33, 34, 47, 48, 49, 50] (by decide +kernel) (by decide +kernel)
set_option maxRecDepth 20000 in
theorem gX2_takeTask_X2_take : GoodIn wsX2_takeTask (wsV RX2 45 RX2 yX2_take wsX2_take) := goodIn_app (goodIn_of _ (by decide +kernel)) ggX2_takeTask_X2_take
set_option maxRecDepth 20000 in
theorem ggX2_takeTask_X2_takeNumberBehind : GoodIn wsX2_takeTask wsX2_takeNumberBehind := goodIn_r _ [14, 3, 4, 5, 6, 7, 8, 9, 10, 15, 16, 17, 18, 19, 20, 21, 22, 32, 33, 34, 47, 48, 49, 50] (by decide +kernel) (by decide +kernel)
set_option maxRecDepth 20000 in
theorem gX2_takeTask_X2_takeNumberBehind : GoodIn wsX2_takeTask (wsV RX2 70 RX2 yX2_takeNumberBehind wsX2_takeNumberBehind) := goodIn_app (goodIn_of _ (by decide +kernel)) ggX2_takeTask_X2_takeNumberBehind
set_option maxRecDepth 20000 in
theorem ggX2_takeTask_X7_addTask : GoodIn wsX2_takeTask wsX7_addTask := goodIn_r _ [27, 28, 29, 30, 31, 35, 36, 37, 38, 39, 40, 41, 42, 43, 44, 45, 46] (by decide +kernel) (by decide +kernel)
set_option maxRecDepth 20000 in
theorem gX2_takeTask_X7_addTask : GoodIn wsX2_takeTask (wsV RX2 100 RX7 yX7_addTask wsX7_addTask) := goodIn_app (goodIn_of _ (by decide +kernel)) ggX2_takeTask_X7_addTask
theorem dX2_takeTask_0 : decode cX2_takeTask 0 = .ok (.aload_n 0, 1) := by decide +kernel
theorem dX2_takeTask_1 : decode cX2_takeTask 1 = .ok (.getfield 12, 3) := by decide +kernel
theorem dX2_takeTask_4 : decode cX2_takeTask 4 = .ok (.getfield 97, 3) := by decide +kernel
theorem dX2_takeTask_7 : decode cX2_takeTask 7 = .ok (.bipush 8, 2) := by decide +kernel
theorem dX2_takeTask_9 : decode cX2_takeTask 9 = .ok (.if_icmp .ge 12, 3) := by decide +kernel
theorem dX2_takeTask_12 : decode cX2_takeTask 12 = .ok (.aload_n 0, 1) := by decide +kernel
theorem dX2_takeTask_13 : decode cX2_takeTask 13 = .ok (.bipush 11, 2) := by decide +kernel
theorem dX2_takeTask_15 : decode cX2_takeTask 15 = .ok (.invokevirtual 45, 3) := by decide +kernel
theorem dX2_takeTask_18 : decode cX2_takeTask 18 = .ok (.ifCond .ne 5, 3) := by decide +kernel
theorem dX2_takeTask_21 : decode cX2_takeTask 21 = .ok (.iconst 0, 1) := by decide +kernel
theorem dX2_takeTask_22 : decode cX2_takeTask 22 = .ok (.ireturn, 1) := by decide +kernel
theorem dX2_takeTask_23 : decode cX2_takeTask 23 = .ok (.aload_n 0, 1) := by decide +kernel
theorem dX2_takeTask_24 : decode cX2_takeTask 24 = .ok (.bipush 6, 2) := by decide +kernel
theorem dX2_takeTask_26 : decode cX2_takeTask 26 = .ok (.iconst 0, 1) := by decide +kernel
theorem dX2_takeTask_27 : decode cX2_takeTask 27 = .ok (.bipush 15, 2) := by decide +kernel
theorem dX2_takeTask_29 : decode cX2_takeTask 29 = .ok (.invokevirtual 70, 3) := by decide +kernel
theorem dX2_takeTask_32 : decode cX2_takeTask 32 = .ok (.istore_n 1, 1) := by decide +kernel
theorem dX2_takeTask_33 : decode cX2_takeTask 33 = .ok (.iload_n 1, 1) := by decide +kernel
theorem dX2_takeTask_34 : decode cX2_takeTask 34 = .ok (.ifCond .ge 5, 3) := by decide +kernel
theorem dX2_takeTask_37 : decode cX2_takeTask 37 = .ok (.iconst 0, 1) := by decide +kernel
theorem dX2_takeTask_38 : decode cX2_takeTask 38 = .ok (.ireturn, 1) := by decide +kernel
theorem dX2_takeTask_39 : decode cX2_takeTask 39 = .ok (.aload_n 0, 1) := by decide +kernel
theorem dX2_takeTask_40 : decode cX2_takeTask 40 = .ok (.bipush 12, 2) := by decide +kernel
theorem dX2_takeTask_42 : decode cX2_takeTask 42 = .ok (.iconst 0, 1) := by decide +kernel
theorem dX2_takeTask_43 : decode cX2_takeTask 43 = .ok (.bipush 99, 2) := by decide +kernel
theorem dX2_takeTask_45 : decode cX2_takeTask 45 = .ok (.invokevirtual 70, 3) := by decide +kernel
theorem dX2_takeTask_48 : decode cX2_takeTask 48 = .ok (.istore_n 2, 1) := by decide +kernel
theorem dX2_takeTask_49 : decode cX2_takeTask 49 = .ok (.iload_n 2, 1) := by decide +kernel
theorem dX2_takeTask_50 : decode cX2_takeTask 50 = .ok (.ifCond .ge 5, 3) := by decide +kernel
theorem dX2_takeTask_53 : decode cX2_takeTask 53 = .ok (.iconst 0, 1) := by decide +kernel
theorem dX2_takeTask_54 : decode cX2_takeTask 54 = .ok (.ireturn, 1) := by decide +kernel
theorem dX2_takeTask_55 : decode cX2_takeTask 55 = .ok (.aload_n 0, 1) := by decide +kernel
theorem dX2_takeTask_56 : decode cX2_takeTask 56 = .ok (.bipush 13, 2) := by decide +kernel
theorem dX2_takeTask_58 : decode cX2_takeTask 58 = .ok (.iconst 1, 1) := by decide +kernel
theorem dX2_takeTask_59 : decode cX2_takeTask 59 = .ok (.bipush 99, 2) := by decide +kernel
theorem dX2_takeTask_61 : decode cX2_takeTask 61 = .ok (.invokevirtual 70, 3) := by decide +kernel
theorem dX2_takeTask_64 : decode cX2_takeTask 64 = .ok (.istore_n 3, 1) := by decide +kernel
theorem dX2_takeTask_65 : decode cX2_takeTask 65 = .ok (.iload_n 3, 1) := by decide +kernel
theorem dX2_takeTask_66 : decode cX2_takeTask 66 = .ok (.ifCond .ge 5, 3) := by decide +kernel
theorem dX2_takeTask_69 : decode cX2_takeTask 69 = .ok (.iconst 0, 1) := by decide +kernel
theorem dX2_takeTask_70 : decode cX2_takeTask 70 = .ok (.ireturn, 1) := by decide +kernel
theorem dX2_takeTask_71 : decode cX2_takeTask 71 = .ok (.aload_n 0, 1) := by decide +kernel
theorem dX2_takeTask_72 : decode cX2_takeTask 72 = .ok (.getfield 12, 3) := by decide +kernel
theorem dX2_takeTask_75 : decode cX2_takeTask 75 = .ok (.iload_n 1, 1) := by decide +kernel
theorem dX2_takeTask_76 : decode cX2_takeTask 76 = .ok (.iload_n 2, 1) := by decide +kernel
theorem dX2_takeTask_77 : decode cX2_takeTask 77 = .ok (.iload_n 3, 1) := by decide +kernel
theorem dX2_takeTask_78 : decode cX2_takeTask 78 = .ok (.invokevirtual 100, 3) := by decide +kernel
theorem dX2_takeTask_81 : decode cX2_takeTask 81 = .ok (.pop, 1) := by decide +kernel
theorem dX2_takeTask_82 : decode cX2_takeTask 82 = .ok (.iconst 1, 1) := by decide +kernel
theorem dX2_takeTask_83 : decode cX2_takeTask 83 = .ok (.ireturn, 1) := by decide +kernel
set_option maxRecDepth 20000 in
theorem ggX2_takeEating_X2_takeNumberBehind : GoodIn wsX2_takeEating wsX2_takeNumberBehind := goodIn_r _ [7, 8, 9, 10, 6, 11, 12, 13, 14, 15, 16, 17, 18, 19, 20, 21, 22, 30, 31, 32, 45, 46, 47, 48] (by decide +kernel) (by decide +kernel)
set_option maxRecDepth 20000 in
theorem gX2_takeEating_X2_takeNumberBehind : GoodIn wsX2_takeEating (wsV RX2 70 RX2 yX2_takeNumberBehind wsX2_takeNumberBehind) := goodIn_app (goodIn_of _ (by decide +kernel)) ggX2_takeEating_X2_takeNumberBehind
set_option maxRecDepth 20000 in
theorem ggX2_takeEating_X2_takeNumber : GoodIn wsX2_takeEating wsX2_takeNumber := goodIn_r _ [18, 12, 19, 14, 20, 21, 22, 8, 9, 10, 6, 11, 13, 30, 31, 32, 45, 46, 47, 48] (by decide +kernel) (by decide +kernel)
set_option maxRecDepth 20000 in
theorem gX2_takeEating_X2_takeNumber : GoodIn wsX2_takeEating (wsV RX2 91 RX2 yX2_takeNumber wsX2_takeNumber) := goodIn_app (goodIn_of _ (by decide +kernel)) ggX2_takeEating_X2_takeNumber
set_option maxRecDepth 20000 in
theorem ggX2_takeEating_X7_feedBeing : GoodIn wsX2_takeEating wsX7_feedBeing := goodIn_r _ [27, 28, 29, 33, 34, 35, 36, 37, 38, 39, 40, 41, 42, 43, 44] (by decide +kernel) (by decide +kernel)
set_option maxRecDepth 20000 in
theorem gX2_takeEating_X7_feedBeing : GoodIn wsX2_takeEating (wsV RX2 103 RX7 yX7_feedBeing wsX7_feedBeing) := goodIn_app (goodIn_of _ (by decide +kernel)) ggX2_takeEating_X7_feedBeing
theorem dX2_takeEating_0 : decode cX2_takeEating 0 = .ok (.aload_n 0, 1) := by decide +kernel
theorem dX2_takeEating_1 : decode cX2_takeEating 1 = .ok (.bipush 14, 2) := by decide +kernel
theorem dX2_takeEating_3 : decode cX2_takeEating 3 = .ok (.iconst 0, 1) := by decide +kernel
theorem dX2_takeEating_4 : decode cX2_takeEating 4 = .ok (.aload_n 0, 1) := by decide +kernel
theorem dX2_takeEating_5 : decode cX2_takeEating 5 = .ok (.getfield 12, 3) := by decide +kernel
theorem dX2_takeEating_8 : decode cX2_takeEating 8 = .ok (.getfield 67, 3) := by decide +kernel
theorem dX2_takeEating_11 : decode cX2_takeEating 11 = .ok (.iconst 1, 1) := by decide +kernel
theorem dX2_takeEating_12 : decode cX2_takeEating 12 = .ok (.isub, 1) := by decide +kernel
theorem dX2_takeEating_13 : decode cX2_takeEating 13 = .ok (.invokevirtual 70, 3) := by decide +kernel
theorem dX2_takeEating_16 : decode cX2_takeEating 16 = .ok (.istore_n 1, 1) := by decide +kernel
theorem dX2_takeEating_17 : decode cX2_takeEating 17 = .ok (.iload_n 1, 1) := by decide +kernel
theorem dX2_takeEating_18 : decode cX2_takeEating 18 = .ok (.ifCond .ge 5, 3) := by decide +kernel
theorem dX2_takeEating_21 : decode cX2_takeEating 21 = .ok (.iconst 0, 1) := by decide +kernel
theorem dX2_takeEating_22 : decode cX2_takeEating 22 = .ok (.ireturn, 1) := by decide +kernel
theorem dX2_takeEating_23 : decode cX2_takeEating 23 = .ok (.aload_n 0, 1) := by decide +kernel
theorem dX2_takeEating_24 : decode cX2_takeEating 24 = .ok (.iconst 0, 1) := by decide +kernel
theorem dX2_takeEating_25 : decode cX2_takeEating 25 = .ok (.bipush 99, 2) := by decide +kernel
theorem dX2_takeEating_27 : decode cX2_takeEating 27 = .ok (.invokevirtual 91, 3) := by decide +kernel
theorem dX2_takeEating_30 : decode cX2_takeEating 30 = .ok (.istore_n 2, 1) := by decide +kernel
theorem dX2_takeEating_31 : decode cX2_takeEating 31 = .ok (.iload_n 2, 1) := by decide +kernel
theorem dX2_takeEating_32 : decode cX2_takeEating 32 = .ok (.ifCond .ge 5, 3) := by decide +kernel
theorem dX2_takeEating_35 : decode cX2_takeEating 35 = .ok (.iconst 0, 1) := by decide +kernel
theorem dX2_takeEating_36 : decode cX2_takeEating 36 = .ok (.ireturn, 1) := by decide +kernel
theorem dX2_takeEating_37 : decode cX2_takeEating 37 = .ok (.aload_n 0, 1) := by decide +kernel
theorem dX2_takeEating_38 : decode cX2_takeEating 38 = .ok (.getfield 12, 3) := by decide +kernel
theorem dX2_takeEating_41 : decode cX2_takeEating 41 = .ok (.iload_n 1, 1) := by decide +kernel
theorem dX2_takeEating_42 : decode cX2_takeEating 42 = .ok (.iload_n 2, 1) := by decide +kernel
theorem dX2_takeEating_43 : decode cX2_takeEating 43 = .ok (.invokevirtual 103, 3) := by decide +kernel
theorem dX2_takeEating_46 : decode cX2_takeEating 46 = .ok (.iconst 1, 1) := by decide +kernel
theorem dX2_takeEating_47 : decode cX2_takeEating 47 = .ok (.ireturn, 1) := by decide +kernel
set_option maxRecDepth 20000 in
theorem ggX2_takePart_X2_takeNumberBehind : GoodIn wsX2_takePart wsX2_takeNumberBehind := goodIn_r _ [8, 9, 10, 11, 7, 12, 1, 2, 3, 13, 14, 15, 16, 17, 18, 19, 20, 21, 22, 23, 24, 25, 26, 27] (by decide +kernel) (by decide +kernel)
set_option maxRecDepth 20000 in
theorem gX2_takePart_X2_takeNumberBehind : GoodIn wsX2_takePart (wsV RX2 70 RX2 yX2_takeNumberBehind wsX2_takeNumberBehind) := goodIn_app (goodIn_of _ (by decide +kernel)) ggX2_takePart_X2_takeNumberBehind
theorem dX2_takePart_0 : decode cX2_takePart 0 = .ok (.aload_n 0, 1) := by decide +kernel
theorem dX2_takePart_1 : decode cX2_takePart 1 = .ok (.getfield 21, 3) := by decide +kernel
theorem dX2_takePart_4 : decode cX2_takePart 4 = .ok (.getfield 41, 3) := by decide +kernel
theorem dX2_takePart_7 : decode cX2_takePart 7 = .ok (.aload_n 0, 1) := by decide +kernel
theorem dX2_takePart_8 : decode cX2_takePart 8 = .ok (.getfield 25, 3) := by decide +kernel
theorem dX2_takePart_11 : decode cX2_takePart 11 = .ok (.iaload, 1) := by decide +kernel
theorem dX2_takePart_12 : decode cX2_takePart 12 = .ok (.iload_n 1, 1) := by decide +kernel
theorem dX2_takePart_13 : decode cX2_takePart 13 = .ok (.if_icmp .eq 5, 3) := by decide +kernel
theorem dX2_takePart_16 : decode cX2_takePart 16 = .ok (.iconst 1, 1) := by decide +kernel
theorem dX2_takePart_17 : decode cX2_takePart 17 = .ok (.ireturn, 1) := by decide +kernel
theorem dX2_takePart_18 : decode cX2_takePart 18 = .ok (.aload_n 0, 1) := by decide +kernel
theorem dX2_takePart_19 : decode cX2_takePart 19 = .ok (.iload_n 1, 1) := by decide +kernel
theorem dX2_takePart_20 : decode cX2_takePart 20 = .ok (.iconst 0, 1) := by decide +kernel
theorem dX2_takePart_21 : decode cX2_takePart 21 = .ok (.iload 4, 2) := by decide +kernel
theorem dX2_takePart_23 : decode cX2_takePart 23 = .ok (.invokevirtual 70, 3) := by decide +kernel
theorem dX2_takePart_26 : decode cX2_takePart 26 = .ok (.istore 5, 2) := by decide +kernel
theorem dX2_takePart_28 : decode cX2_takePart 28 = .ok (.iload 5, 2) := by decide +kernel
theorem dX2_takePart_30 : decode cX2_takePart 30 = .ok (.ifCond .lt 13, 3) := by decide +kernel
theorem dX2_takePart_33 : decode cX2_takePart 33 = .ok (.iload_n 3, 1) := by decide +kernel
theorem dX2_takePart_34 : decode cX2_takePart 34 = .ok (.ifCond .lt 9, 3) := by decide +kernel
theorem dX2_takePart_37 : decode cX2_takePart 37 = .ok (.iload_n 3, 1) := by decide +kernel
theorem dX2_takePart_38 : decode cX2_takePart 38 = .ok (.aload_n 2, 1) := by decide +kernel
theorem dX2_takePart_39 : decode cX2_takePart 39 = .ok (.arraylength, 1) := by decide +kernel
theorem dX2_takePart_40 : decode cX2_takePart 40 = .ok (.if_icmp .lt 5, 3) := by decide +kernel
theorem dX2_takePart_43 : decode cX2_takePart 43 = .ok (.iconst 0, 1) := by decide +kernel
theorem dX2_takePart_44 : decode cX2_takePart 44 = .ok (.ireturn, 1) := by decide +kernel
theorem dX2_takePart_45 : decode cX2_takePart 45 = .ok (.aload_n 2, 1) := by decide +kernel
theorem dX2_takePart_46 : decode cX2_takePart 46 = .ok (.iload_n 3, 1) := by decide +kernel
theorem dX2_takePart_47 : decode cX2_takePart 47 = .ok (.iload 5, 2) := by decide +kernel
theorem dX2_takePart_49 : decode cX2_takePart 49 = .ok (.iastore, 1) := by decide +kernel
theorem dX2_takePart_50 : decode cX2_takePart 50 = .ok (.iconst 1, 1) := by decide +kernel
theorem dX2_takePart_51 : decode cX2_takePart 51 = .ok (.ireturn, 1) := by decide +kernel
set_option maxRecDepth 20000 in
theorem ggX2_takeNumberBehind_X2_take : GoodIn wsX2_takeNumberBehind wsX2_take := goodIn_r _ [5, 6, 7, 8, 17, 18, 19, 20, 21, 22, 23] (by decide +kernel) (by decide +kernel)
set_option maxRecDepth 20000 in
theorem gX2_takeNumberBehind_X2_take : GoodIn wsX2_takeNumberBehind (wsV RX2 45 RX2 yX2_take wsX2_take) := goodIn_app (goodIn_of _ (by decide +kernel)) ggX2_takeNumberBehind_X2_take
set_option maxRecDepth 20000 in
theorem ggX2_takeNumberBehind_X2_takeNumber : GoodIn wsX2_takeNumberBehind wsX2_takeNumber := goodIn_r _ [12, 6, 13, 8, 14, 15, 16, 1, 2, 3, 4, 5, 7, 17, 18, 19, 20, 21, 22, 23] (by decide +kernel) (by decide +kernel)
set_option maxRecDepth 20000 in
theorem gX2_takeNumberBehind_X2_takeNumber : GoodIn wsX2_takeNumberBehind (wsV RX2 91 RX2 yX2_takeNumber wsX2_takeNumber) := goodIn_app (goodIn_of _ (by decide +kernel)) ggX2_takeNumberBehind_X2_takeNumber
theorem dX2_takeNumberBehind_0 : decode cX2_takeNumberBehind 0 = .ok (.aload_n 0, 1) := by decide +kernel
theorem dX2_takeNumberBehind_1 : decode cX2_takeNumberBehind 1 = .ok (.iload_n 1, 1) := by decide +kernel
theorem dX2_takeNumberBehind_2 : decode cX2_takeNumberBehind 2 = .ok (.invokevirtual 45, 3) := by decide +kernel
theorem dX2_takeNumberBehind_5 : decode cX2_takeNumberBehind 5 = .ok (.ifCond .eq 12, 3) := by decide +kernel
theorem dX2_takeNumberBehind_8 : decode cX2_takeNumberBehind 8 = .ok (.aload_n 0, 1) := by decide +kernel
theorem dX2_takeNumberBehind_9 : decode cX2_takeNumberBehind 9 = .ok (.iload_n 2, 1) := by decide +kernel
theorem dX2_takeNumberBehind_10 : decode cX2_takeNumberBehind 10 = .ok (.iload_n 3, 1) := by decide +kernel
theorem dX2_takeNumberBehind_11 : decode cX2_takeNumberBehind 11 = .ok (.invokevirtual 91, 3) := by decide +kernel
theorem dX2_takeNumberBehind_14 : decode cX2_takeNumberBehind 14 = .ok (.goto 4, 3) := by decide +kernel
theorem dX2_takeNumberBehind_17 : decode cX2_takeNumberBehind 17 = .ok (.iconst (-1), 1) := by decide +kernel
theorem dX2_takeNumberBehind_18 : decode cX2_takeNumberBehind 18 = .ok (.ireturn, 1) := by decide +kernel
set_option maxRecDepth 20000 in
theorem ggX2_takeNumber_X8_within : GoodIn wsX2_takeNumber wsX8_within := goodIn_r _ [6] (by decide +kernel) (by decide +kernel)
set_option maxRecDepth 20000 in
theorem gX2_takeNumber_X8_within_n110 : GoodIn wsX2_takeNumber (wsX8_within) := ggX2_takeNumber_X8_within
set_option maxRecDepth 20000 in
theorem ggX2_takeNumber_X2_take : GoodIn wsX2_takeNumber wsX2_take := goodIn_r _ [11, 1, 12, 3, 13, 14, 15, 16, 17, 18, 19] (by decide +kernel) (by decide +kernel)
set_option maxRecDepth 20000 in
theorem gX2_takeNumber_X2_take : GoodIn wsX2_takeNumber (wsV RX2 45 RX2 yX2_take wsX2_take) := goodIn_app (goodIn_of _ (by decide +kernel)) ggX2_takeNumber_X2_take
theorem dX2_takeNumber_0 : decode cX2_takeNumber 0 = .ok (.aload_n 0, 1) := by decide +kernel
theorem dX2_takeNumber_1 : decode cX2_takeNumber 1 = .ok (.getfield 21, 3) := by decide +kernel
theorem dX2_takeNumber_4 : decode cX2_takeNumber 4 = .ok (.getfield 107, 3) := by decide +kernel
theorem dX2_takeNumber_7 : decode cX2_takeNumber 7 = .ok (.aload_n 0, 1) := by decide +kernel
theorem dX2_takeNumber_8 : decode cX2_takeNumber 8 = .ok (.getfield 25, 3) := by decide +kernel
theorem dX2_takeNumber_11 : decode cX2_takeNumber 11 = .ok (.iaload, 1) := by decide +kernel
theorem dX2_takeNumber_12 : decode cX2_takeNumber 12 = .ok (.istore_n 3, 1) := by decide +kernel
theorem dX2_takeNumber_13 : decode cX2_takeNumber 13 = .ok (.iload_n 3, 1) := by decide +kernel
theorem dX2_takeNumber_14 : decode cX2_takeNumber 14 = .ok (.iload_n 1, 1) := by decide +kernel
theorem dX2_takeNumber_15 : decode cX2_takeNumber 15 = .ok (.iload_n 2, 1) := by decide +kernel
theorem dX2_takeNumber_16 : decode cX2_takeNumber 16 = .ok (.invokestatic 110, 3) := by decide +kernel
theorem dX2_takeNumber_19 : decode cX2_takeNumber 19 = .ok (.ifCond .eq 12, 3) := by decide +kernel
theorem dX2_takeNumber_22 : decode cX2_takeNumber 22 = .ok (.aload_n 0, 1) := by decide +kernel
theorem dX2_takeNumber_23 : decode cX2_takeNumber 23 = .ok (.bipush 15, 2) := by decide +kernel
theorem dX2_takeNumber_25 : decode cX2_takeNumber 25 = .ok (.invokevirtual 45, 3) := by decide +kernel
theorem dX2_takeNumber_28 : decode cX2_takeNumber 28 = .ok (.ifCond .ne 5, 3) := by decide +kernel
theorem dX2_takeNumber_31 : decode cX2_takeNumber 31 = .ok (.iconst (-1), 1) := by decide +kernel
theorem dX2_takeNumber_32 : decode cX2_takeNumber 32 = .ok (.ireturn, 1) := by decide +kernel
theorem dX2_takeNumber_33 : decode cX2_takeNumber 33 = .ok (.iload_n 3, 1) := by decide +kernel
theorem dX2_takeNumber_34 : decode cX2_takeNumber 34 = .ok (.ireturn, 1) := by decide +kernel
theorem dX2_take_0 : decode cX2_take 0 = .ok (.aload_n 0, 1) := by decide +kernel
theorem dX2_take_1 : decode cX2_take 1 = .ok (.getfield 21, 3) := by decide +kernel
theorem dX2_take_4 : decode cX2_take 4 = .ok (.getfield 41, 3) := by decide +kernel
theorem dX2_take_7 : decode cX2_take 7 = .ok (.aload_n 0, 1) := by decide +kernel
theorem dX2_take_8 : decode cX2_take 8 = .ok (.getfield 25, 3) := by decide +kernel
theorem dX2_take_11 : decode cX2_take 11 = .ok (.iaload, 1) := by decide +kernel
theorem dX2_take_12 : decode cX2_take 12 = .ok (.iload_n 1, 1) := by decide +kernel
theorem dX2_take_13 : decode cX2_take 13 = .ok (.if_icmp .ne 22, 3) := by decide +kernel
theorem dX2_take_16 : decode cX2_take 16 = .ok (.iload_n 1, 1) := by decide +kernel
theorem dX2_take_17 : decode cX2_take 17 = .ok (.bipush 17, 2) := by decide +kernel
theorem dX2_take_19 : decode cX2_take 19 = .ok (.if_icmp .eq 16, 3) := by decide +kernel
theorem dX2_take_22 : decode cX2_take 22 = .ok (.aload_n 0, 1) := by decide +kernel
theorem dX2_take_23 : decode cX2_take 23 = .ok (.getfield 25, 3) := by decide +kernel
theorem dX2_take_26 : decode cX2_take 26 = .ok (.bipush 120, 2) := by decide +kernel
theorem dX2_take_28 : decode cX2_take 28 = .ok (.if_icmp .ge 7, 3) := by decide +kernel
theorem dX2_take_31 : decode cX2_take 31 = .ok (.iconst 1, 1) := by decide +kernel
theorem dX2_take_32 : decode cX2_take 32 = .ok (.goto 4, 3) := by decide +kernel
theorem dX2_take_35 : decode cX2_take 35 = .ok (.iconst 0, 1) := by decide +kernel
theorem dX2_take_36 : decode cX2_take 36 = .ok (.istore_n 2, 1) := by decide +kernel
theorem dX2_take_37 : decode cX2_take 37 = .ok (.aload_n 0, 1) := by decide +kernel
theorem dX2_take_38 : decode cX2_take 38 = .ok (.dup, 1) := by decide +kernel
theorem dX2_take_39 : decode cX2_take 39 = .ok (.getfield 25, 3) := by decide +kernel
theorem dX2_take_42 : decode cX2_take 42 = .ok (.iload_n 2, 1) := by decide +kernel
theorem dX2_take_43 : decode cX2_take 43 = .ok (.ifCond .eq 7, 3) := by decide +kernel
theorem dX2_take_46 : decode cX2_take 46 = .ok (.iconst 1, 1) := by decide +kernel
theorem dX2_take_47 : decode cX2_take 47 = .ok (.goto 4, 3) := by decide +kernel
theorem dX2_take_50 : decode cX2_take 50 = .ok (.iconst 0, 1) := by decide +kernel
theorem dX2_take_51 : decode cX2_take 51 = .ok (.iadd, 1) := by decide +kernel
theorem dX2_take_52 : decode cX2_take 52 = .ok (.putfield 25, 3) := by decide +kernel
theorem dX2_take_55 : decode cX2_take 55 = .ok (.iload_n 2, 1) := by decide +kernel
theorem dX2_take_56 : decode cX2_take 56 = .ok (.ireturn, 1) := by decide +kernel
theorem dX3_init_0 : decode cX3_init 0 = .ok (.aload_n 0, 1) := by decide +kernel
theorem dX3_init_1 : decode cX3_init 1 = .ok (.invokespecial 3, 3) := by decide +kernel
theorem dX3_init_4 : decode cX3_init 4 = .ok (.aload_n 0, 1) := by decide +kernel
theorem dX3_init_5 : decode cX3_init 5 = .ok (.iconst 0, 1) := by decide +kernel
theorem dX3_init_6 : decode cX3_init 6 = .ok (.putfield 9, 3) := by decide +kernel
theorem dX3_init_9 : decode cX3_init 9 = .ok (.aload_n 0, 1) := by decide +kernel
theorem dX3_init_10 : decode cX3_init 10 = .ok (.iconst 0, 1) := by decide +kernel
theorem dX3_init_11 : decode cX3_init 11 = .ok (.putfield 15, 3) := by decide +kernel
theorem dX3_init_14 : decode cX3_init 14 = .ok (.aload_n 0, 1) := by decide +kernel
theorem dX3_init_15 : decode cX3_init 15 = .ok (.bipush 40, 2) := by decide +kernel
theorem dX3_init_17 : decode cX3_init 17 = .ok (.newarray .long, 2) := by decide +kernel
theorem dX3_init_19 : decode cX3_init 19 = .ok (.putfield 18, 3) := by decide +kernel
theorem dX3_init_22 : decode cX3_init 22 = .ok (.return_, 1) := by decide +kernel
theorem dX3_isMissing_0 : decode cX3_isMissing 0 = .ok (.aload_n 0, 1) := by decide +kernel
theorem dX3_isMissing_1 : decode cX3_isMissing 1 = .ok (.getfield 9, 3) := by decide +kernel
theorem dX3_isMissing_4 : decode cX3_isMissing 4 = .ok (.ifCond .ne 7, 3) := by decide +kernel
theorem dX3_isMissing_7 : decode cX3_isMissing 7 = .ok (.iconst 1, 1) := by decide +kernel
theorem dX3_isMissing_8 : decode cX3_isMissing 8 = .ok (.goto 4, 3) := by decide +kernel
theorem dX3_isMissing_11 : decode cX3_isMissing 11 = .ok (.iconst 0, 1) := by decide +kernel
theorem dX3_isMissing_12 : decode cX3_isMissing 12 = .ok (.ireturn, 1) := by decide +kernel
set_option maxRecDepth 20000 in
theorem ggX3_layOut_J7_fill_d0a16 : GoodIn wsX3_layOut wsJ7_fill_d0a16 := goodIn_r _ [7] (by decide +kernel) (by decide +kernel)
set_option maxRecDepth 20000 in
theorem gX3_layOut_J7_fill_d0a16 : GoodIn wsX3_layOut (va_wsS RX3 22 yJ7_fill_d0a16 wsJ7_fill_d0a16) := goodIn_app (goodIn_of _ (by decide +kernel)) ggX3_layOut_J7_fill_d0a16
theorem dX3_layOut_0 : decode cX3_layOut 0 = .ok (.aload_n 0, 1) := by decide +kernel
theorem dX3_layOut_1 : decode cX3_layOut 1 = .ok (.iload_n 1, 1) := by decide +kernel
theorem dX3_layOut_2 : decode cX3_layOut 2 = .ok (.putfield 9, 3) := by decide +kernel
theorem dX3_layOut_5 : decode cX3_layOut 5 = .ok (.aload_n 0, 1) := by decide +kernel
theorem dX3_layOut_6 : decode cX3_layOut 6 = .ok (.iload_n 1, 1) := by decide +kernel
theorem dX3_layOut_7 : decode cX3_layOut 7 = .ok (.ifCond .ne 7, 3) := by decide +kernel
theorem dX3_layOut_10 : decode cX3_layOut 10 = .ok (.iconst 0, 1) := by decide +kernel
theorem dX3_layOut_11 : decode cX3_layOut 11 = .ok (.goto 4, 3) := by decide +kernel
theorem dX3_layOut_14 : decode cX3_layOut 14 = .ok (.iload_n 2, 1) := by decide +kernel
theorem dX3_layOut_15 : decode cX3_layOut 15 = .ok (.putfield 15, 3) := by decide +kernel
theorem dX3_layOut_18 : decode cX3_layOut 18 = .ok (.aload_n 0, 1) := by decide +kernel
theorem dX3_layOut_19 : decode cX3_layOut 19 = .ok (.getfield 18, 3) := by decide +kernel
theorem dX3_layOut_22 : decode cX3_layOut 22 = .ok (.lconst 0, 1) := by decide +kernel
theorem dX3_layOut_23 : decode cX3_layOut 23 = .ok (.invokestatic 22, 3) := by decide +kernel
theorem dX3_layOut_26 : decode cX3_layOut 26 = .ok (.return_, 1) := by decide +kernel
theorem dX3_put_0 : decode cX3_put 0 = .ok (.aload_n 0, 1) := by decide +kernel
theorem dX3_put_1 : decode cX3_put 1 = .ok (.getfield 9, 3) := by decide +kernel
theorem dX3_put_4 : decode cX3_put 4 = .ok (.lookupswitch 54 #[(8, 28), (16, 41)], 28) := by decide +kernel
theorem dX3_put_32 : decode cX3_put 32 = .ok (.aload_n 0, 1) := by decide +kernel
theorem dX3_put_33 : decode cX3_put 33 = .ok (.getfield 18, 3) := by decide +kernel
theorem dX3_put_36 : decode cX3_put 36 = .ok (.iload_n 1, 1) := by decide +kernel
theorem dX3_put_37 : decode cX3_put 37 = .ok (.lload_n 2, 1) := by decide +kernel
theorem dX3_put_38 : decode cX3_put 38 = .ok (.l2i, 1) := by decide +kernel
theorem dX3_put_39 : decode cX3_put 39 = .ok (.i2b, 1) := by decide +kernel
theorem dX3_put_40 : decode cX3_put 40 = .ok (.i2l, 1) := by decide +kernel
theorem dX3_put_41 : decode cX3_put 41 = .ok (.lastore, 1) := by decide +kernel
theorem dX3_put_42 : decode cX3_put 42 = .ok (.goto 23, 3) := by decide +kernel
theorem dX3_put_45 : decode cX3_put 45 = .ok (.aload_n 0, 1) := by decide +kernel
theorem dX3_put_46 : decode cX3_put 46 = .ok (.getfield 18, 3) := by decide +kernel
theorem dX3_put_49 : decode cX3_put 49 = .ok (.iload_n 1, 1) := by decide +kernel
theorem dX3_put_50 : decode cX3_put 50 = .ok (.lload_n 2, 1) := by decide +kernel
theorem dX3_put_51 : decode cX3_put 51 = .ok (.l2i, 1) := by decide +kernel
theorem dX3_put_52 : decode cX3_put 52 = .ok (.i2s, 1) := by decide +kernel
theorem dX3_put_53 : decode cX3_put 53 = .ok (.i2l, 1) := by decide +kernel
theorem dX3_put_54 : decode cX3_put 54 = .ok (.lastore, 1) := by decide +kernel
theorem dX3_put_55 : decode cX3_put 55 = .ok (.goto 10, 3) := by decide +kernel
theorem dX3_put_58 : decode cX3_put 58 = .ok (.aload_n 0, 1) := by decide +kernel
theorem dX3_put_59 : decode cX3_put 59 = .ok (.getfield 18, 3) := by decide +kernel
theorem dX3_put_62 : decode cX3_put 62 = .ok (.iload_n 1, 1) := by decide +kernel
theorem dX3_put_63 : decode cX3_put 63 = .ok (.lload_n 2, 1) := by decide +kernel
theorem dX3_put_64 : decode cX3_put 64 = .ok (.lastore, 1) := by decide +kernel
theorem dX3_put_65 : decode cX3_put 65 = .ok (.return_, 1) := by decide +kernel
theorem dX3_hasSpan_0 : decode cX3_hasSpan 0 = .ok (.iload_n 1, 1) := by decide +kernel
theorem dX3_hasSpan_1 : decode cX3_hasSpan 1 = .ok (.ifCond .lt 21, 3) := by decide +kernel
theorem dX3_hasSpan_4 : decode cX3_hasSpan 4 = .ok (.iload_n 2, 1) := by decide +kernel
theorem dX3_hasSpan_5 : decode cX3_hasSpan 5 = .ok (.ifCond .lt 17, 3) := by decide +kernel
theorem dX3_hasSpan_8 : decode cX3_hasSpan 8 = .ok (.iload_n 2, 1) := by decide +kernel
theorem dX3_hasSpan_9 : decode cX3_hasSpan 9 = .ok (.aload_n 0, 1) := by decide +kernel
theorem dX3_hasSpan_10 : decode cX3_hasSpan 10 = .ok (.getfield 15, 3) := by decide +kernel
theorem dX3_hasSpan_13 : decode cX3_hasSpan 13 = .ok (.iload_n 1, 1) := by decide +kernel
theorem dX3_hasSpan_14 : decode cX3_hasSpan 14 = .ok (.isub, 1) := by decide +kernel
theorem dX3_hasSpan_15 : decode cX3_hasSpan 15 = .ok (.if_icmp .gt 7, 3) := by decide +kernel
theorem dX3_hasSpan_18 : decode cX3_hasSpan 18 = .ok (.iconst 1, 1) := by decide +kernel
theorem dX3_hasSpan_19 : decode cX3_hasSpan 19 = .ok (.goto 4, 3) := by decide +kernel
theorem dX3_hasSpan_22 : decode cX3_hasSpan 22 = .ok (.iconst 0, 1) := by decide +kernel
theorem dX3_hasSpan_23 : decode cX3_hasSpan 23 = .ok (.ireturn, 1) := by decide +kernel
theorem dX3_places_0 : decode cX3_places 0 = .ok (.aload_n 0, 1) := by decide +kernel
theorem dX3_places_1 : decode cX3_places 1 = .ok (.getfield 15, 3) := by decide +kernel
theorem dX3_places_4 : decode cX3_places 4 = .ok (.bipush 16, 2) := by decide +kernel
theorem dX3_places_6 : decode cX3_places 6 = .ok (.invokestatic 28, 3) := by decide +kernel
theorem dX3_places_9 : decode cX3_places 9 = .ok (.ireturn, 1) := by decide +kernel
theorem dX4_init_0 : decode cX4_init 0 = .ok (.aload_n 0, 1) := by decide +kernel
theorem dX4_init_1 : decode cX4_init 1 = .ok (.invokespecial 3, 3) := by decide +kernel
theorem dX4_init_4 : decode cX4_init 4 = .ok (.aload_n 0, 1) := by decide +kernel
theorem dX4_init_5 : decode cX4_init 5 = .ok (.bipush 120, 2) := by decide +kernel
theorem dX4_init_7 : decode cX4_init 7 = .ok (.newarray .byte, 2) := by decide +kernel
theorem dX4_init_9 : decode cX4_init 9 = .ok (.putfield 9, 3) := by decide +kernel
theorem dX4_init_12 : decode cX4_init 12 = .ok (.aload_n 0, 1) := by decide +kernel
theorem dX4_init_13 : decode cX4_init 13 = .ok (.iconst 0, 1) := by decide +kernel
theorem dX4_init_14 : decode cX4_init 14 = .ok (.putfield 15, 3) := by decide +kernel
theorem dX4_init_17 : decode cX4_init 17 = .ok (.return_, 1) := by decide +kernel
theorem dX4_putLowest_0 : decode cX4_putLowest 0 = .ok (.iload_n 2, 1) := by decide +kernel
theorem dX4_putLowest_1 : decode cX4_putLowest 1 = .ok (.iconst 1, 1) := by decide +kernel
theorem dX4_putLowest_2 : decode cX4_putLowest 2 = .ok (.isub, 1) := by decide +kernel
theorem dX4_putLowest_3 : decode cX4_putLowest 3 = .ok (.istore_n 3, 1) := by decide +kernel
theorem dX4_putLowest_4 : decode cX4_putLowest 4 = .ok (.iload_n 3, 1) := by decide +kernel
theorem dX4_putLowest_5 : decode cX4_putLowest 5 = .ok (.ifCond .lt 44, 3) := by decide +kernel
theorem dX4_putLowest_8 : decode cX4_putLowest 8 = .ok (.aload_n 0, 1) := by decide +kernel
theorem dX4_putLowest_9 : decode cX4_putLowest 9 = .ok (.getfield 15, 3) := by decide +kernel
theorem dX4_putLowest_12 : decode cX4_putLowest 12 = .ok (.bipush 120, 2) := by decide +kernel
theorem dX4_putLowest_14 : decode cX4_putLowest 14 = .ok (.if_icmp .ge 35, 3) := by decide +kernel
theorem dX4_putLowest_17 : decode cX4_putLowest 17 = .ok (.aload_n 0, 1) := by decide +kernel
theorem dX4_putLowest_18 : decode cX4_putLowest 18 = .ok (.getfield 9, 3) := by decide +kernel
theorem dX4_putLowest_21 : decode cX4_putLowest 21 = .ok (.aload_n 0, 1) := by decide +kernel
theorem dX4_putLowest_22 : decode cX4_putLowest 22 = .ok (.getfield 15, 3) := by decide +kernel
theorem dX4_putLowest_25 : decode cX4_putLowest 25 = .ok (.iload_n 1, 1) := by decide +kernel
theorem dX4_putLowest_26 : decode cX4_putLowest 26 = .ok (.bipush 8, 2) := by decide +kernel
theorem dX4_putLowest_28 : decode cX4_putLowest 28 = .ok (.iload_n 3, 1) := by decide +kernel
theorem dX4_putLowest_29 : decode cX4_putLowest 29 = .ok (.imul, 1) := by decide +kernel
theorem dX4_putLowest_30 : decode cX4_putLowest 30 = .ok (.ishr, 1) := by decide +kernel
theorem dX4_putLowest_31 : decode cX4_putLowest 31 = .ok (.i2b, 1) := by decide +kernel
theorem dX4_putLowest_32 : decode cX4_putLowest 32 = .ok (.bastore, 1) := by decide +kernel
theorem dX4_putLowest_33 : decode cX4_putLowest 33 = .ok (.aload_n 0, 1) := by decide +kernel
theorem dX4_putLowest_34 : decode cX4_putLowest 34 = .ok (.dup, 1) := by decide +kernel
theorem dX4_putLowest_35 : decode cX4_putLowest 35 = .ok (.getfield 15, 3) := by decide +kernel
theorem dX4_putLowest_38 : decode cX4_putLowest 38 = .ok (.iconst 1, 1) := by decide +kernel
theorem dX4_putLowest_39 : decode cX4_putLowest 39 = .ok (.iadd, 1) := by decide +kernel
theorem dX4_putLowest_40 : decode cX4_putLowest 40 = .ok (.putfield 15, 3) := by decide +kernel
theorem dX4_putLowest_43 : decode cX4_putLowest 43 = .ok (.iinc 3 (-1), 3) := by decide +kernel
theorem dX4_putLowest_46 : decode cX4_putLowest 46 = .ok (.goto (-42), 3) := by decide +kernel
theorem dX4_putLowest_49 : decode cX4_putLowest 49 = .ok (.return_, 1) := by decide +kernel
theorem dX5_init_0 : decode cX5_init 0 = .ok (.aload_n 0, 1) := by decide +kernel
theorem dX5_init_1 : decode cX5_init 1 = .ok (.invokespecial 3, 3) := by decide +kernel
theorem dX5_init_4 : decode cX5_init 4 = .ok (.aload_n 0, 1) := by decide +kernel
theorem dX5_init_5 : decode cX5_init 5 = .ok (.bipush 121, 2) := by decide +kernel
theorem dX5_init_7 : decode cX5_init 7 = .ok (.newarray .int, 2) := by decide +kernel
theorem dX5_init_9 : decode cX5_init 9 = .ok (.putfield 9, 3) := by decide +kernel
theorem dX5_init_12 : decode cX5_init 12 = .ok (.aload_n 0, 1) := by decide +kernel
theorem dX5_init_13 : decode cX5_init 13 = .ok (.bipush 121, 2) := by decide +kernel
theorem dX5_init_15 : decode cX5_init 15 = .ok (.newarray .int, 2) := by decide +kernel
theorem dX5_init_17 : decode cX5_init 17 = .ok (.putfield 15, 3) := by decide +kernel
theorem dX5_init_20 : decode cX5_init 20 = .ok (.aload_n 0, 1) := by decide +kernel
theorem dX5_init_21 : decode cX5_init 21 = .ok (.bipush 121, 2) := by decide +kernel
theorem dX5_init_23 : decode cX5_init 23 = .ok (.newarray .int, 2) := by decide +kernel
theorem dX5_init_25 : decode cX5_init 25 = .ok (.putfield 18, 3) := by decide +kernel
theorem dX5_init_28 : decode cX5_init 28 = .ok (.aload_n 0, 1) := by decide +kernel
theorem dX5_init_29 : decode cX5_init 29 = .ok (.iconst 0, 1) := by decide +kernel
theorem dX5_init_30 : decode cX5_init 30 = .ok (.putfield 21, 3) := by decide +kernel
theorem dX5_init_33 : decode cX5_init 33 = .ok (.return_, 1) := by decide +kernel
set_option maxRecDepth 20000 in
theorem ggX5_cutOut_X5_tokenEnd : GoodIn wsX5_cutOut wsX5_tokenEnd := goodIn_r _ [7, 3, 2, 8, 9, 6, 10, 11, 12, 13, 90, 91] (by decide +kernel) (by decide +kernel)
set_option maxRecDepth 20000 in
theorem gX5_cutOut_X5_tokenEnd : GoodIn wsX5_cutOut (va_wsS RX5 34 yX5_tokenEnd wsX5_tokenEnd) := goodIn_app (goodIn_of _ (by decide +kernel)) ggX5_cutOut_X5_tokenEnd
set_option maxRecDepth 20000 in
theorem ggX5_cutOut_X5_codeOf : GoodIn wsX5_cutOut wsX5_codeOf := goodIn_r _ [16, 3, 11, 12, 6, 13, 17, 18, 19, 20, 21, 22, 23, 24, 25, 26, 27, 28, 29, 30, 31, 32, 33, 34, 35, 36, 37, 38, 39, 40, 41, 42, 43, 44, 45, 46, 47, 48, 49, 50, 51, 52, 53, 54, 55, 56, 57, 58, 59, 60, 61, 62, 63, 64, 65, 66, 67, 68, 69, 70, 71, 90, 91] (by decide +kernel) (by decide +kernel)
set_option maxRecDepth 20000 in
theorem gX5_cutOut_X5_codeOf : GoodIn wsX5_cutOut (va_wsS RX5 38 yX5_codeOf wsX5_codeOf) := goodIn_app (goodIn_of _ (by decide +kernel)) ggX5_cutOut_X5_codeOf
set_option maxRecDepth 20000 in
theorem ggX5_cutOut_X5_numberOf : GoodIn wsX5_cutOut wsX5_numberOf := goodIn_r _ [74, 3, 75, 76, 77, 78, 11, 12, 6, 13, 90, 91] (by decide +kernel) (by decide +kernel)
set_option maxRecDepth 20000 in
theorem gX5_cutOut_X5_numberOf : GoodIn wsX5_cutOut (va_wsS RX5 42 yX5_numberOf wsX5_numberOf) := goodIn_app (goodIn_of _ (by decide +kernel)) ggX5_cutOut_X5_numberOf
set_option maxRecDepth 20000 in
theorem ggX5_cutOut_X5_add : GoodIn wsX5_cutOut wsX5_add := goodIn_r _ [82, 1, 83, 84, 85, 86, 87, 88, 89] (by decide +kernel) (by decide +kernel)
set_option maxRecDepth 20000 in
theorem gX5_cutOut_X5_add : GoodIn wsX5_cutOut (wsV RX5 45 RX5 yX5_add wsX5_add) := goodIn_app (goodIn_of _ (by decide +kernel)) ggX5_cutOut_X5_add
theorem dX5_cutOut_0 : decode cX5_cutOut 0 = .ok (.aload_n 0, 1) := by decide +kernel
theorem dX5_cutOut_1 : decode cX5_cutOut 1 = .ok (.iconst 0, 1) := by decide +kernel
theorem dX5_cutOut_2 : decode cX5_cutOut 2 = .ok (.putfield 21, 3) := by decide +kernel
theorem dX5_cutOut_5 : decode cX5_cutOut 5 = .ok (.iconst 0, 1) := by decide +kernel
theorem dX5_cutOut_6 : decode cX5_cutOut 6 = .ok (.istore_n 2, 1) := by decide +kernel
theorem dX5_cutOut_7 : decode cX5_cutOut 7 = .ok (.iconst 0, 1) := by decide +kernel
theorem dX5_cutOut_8 : decode cX5_cutOut 8 = .ok (.istore_n 3, 1) := by decide +kernel
theorem dX5_cutOut_9 : decode cX5_cutOut 9 = .ok (.iload_n 3, 1) := by decide +kernel
theorem dX5_cutOut_10 : decode cX5_cutOut 10 = .ok (.aload_n 1, 1) := by decide +kernel
theorem dX5_cutOut_11 : decode cX5_cutOut 11 = .ok (.getfield 25, 3) := by decide +kernel
theorem dX5_cutOut_14 : decode cX5_cutOut 14 = .ok (.if_icmp .ge 48, 3) := by decide +kernel
theorem dX5_cutOut_17 : decode cX5_cutOut 17 = .ok (.iload_n 3, 1) := by decide +kernel
theorem dX5_cutOut_18 : decode cX5_cutOut 18 = .ok (.iload_n 2, 1) := by decide +kernel
theorem dX5_cutOut_19 : decode cX5_cutOut 19 = .ok (.if_icmp .lt 37, 3) := by decide +kernel
theorem dX5_cutOut_22 : decode cX5_cutOut 22 = .ok (.aload_n 1, 1) := by decide +kernel
theorem dX5_cutOut_23 : decode cX5_cutOut 23 = .ok (.getfield 30, 3) := by decide +kernel
theorem dX5_cutOut_26 : decode cX5_cutOut 26 = .ok (.iload_n 3, 1) := by decide +kernel
theorem dX5_cutOut_27 : decode cX5_cutOut 27 = .ok (.baload, 1) := by decide +kernel
theorem dX5_cutOut_28 : decode cX5_cutOut 28 = .ok (.bipush 32, 2) := by decide +kernel
theorem dX5_cutOut_30 : decode cX5_cutOut 30 = .ok (.if_icmp .eq 26, 3) := by decide +kernel
theorem dX5_cutOut_33 : decode cX5_cutOut 33 = .ok (.aload_n 1, 1) := by decide +kernel
theorem dX5_cutOut_34 : decode cX5_cutOut 34 = .ok (.iload_n 3, 1) := by decide +kernel
theorem dX5_cutOut_35 : decode cX5_cutOut 35 = .ok (.invokestatic 34, 3) := by decide +kernel
theorem dX5_cutOut_38 : decode cX5_cutOut 38 = .ok (.istore_n 2, 1) := by decide +kernel
theorem dX5_cutOut_39 : decode cX5_cutOut 39 = .ok (.aload_n 0, 1) := by decide +kernel
theorem dX5_cutOut_40 : decode cX5_cutOut 40 = .ok (.aload_n 1, 1) := by decide +kernel
theorem dX5_cutOut_41 : decode cX5_cutOut 41 = .ok (.iload_n 3, 1) := by decide +kernel
theorem dX5_cutOut_42 : decode cX5_cutOut 42 = .ok (.iload_n 2, 1) := by decide +kernel
theorem dX5_cutOut_43 : decode cX5_cutOut 43 = .ok (.invokestatic 38, 3) := by decide +kernel
theorem dX5_cutOut_46 : decode cX5_cutOut 46 = .ok (.aload_n 1, 1) := by decide +kernel
theorem dX5_cutOut_47 : decode cX5_cutOut 47 = .ok (.iload_n 3, 1) := by decide +kernel
theorem dX5_cutOut_48 : decode cX5_cutOut 48 = .ok (.iload_n 2, 1) := by decide +kernel
theorem dX5_cutOut_49 : decode cX5_cutOut 49 = .ok (.invokestatic 42, 3) := by decide +kernel
theorem dX5_cutOut_52 : decode cX5_cutOut 52 = .ok (.iload_n 3, 1) := by decide +kernel
theorem dX5_cutOut_53 : decode cX5_cutOut 53 = .ok (.invokevirtual 45, 3) := by decide +kernel
theorem dX5_cutOut_56 : decode cX5_cutOut 56 = .ok (.iinc 3 1, 3) := by decide +kernel
theorem dX5_cutOut_59 : decode cX5_cutOut 59 = .ok (.goto (-50), 3) := by decide +kernel
theorem dX5_cutOut_62 : decode cX5_cutOut 62 = .ok (.aload_n 0, 1) := by decide +kernel
theorem dX5_cutOut_63 : decode cX5_cutOut 63 = .ok (.bipush 17, 2) := by decide +kernel
theorem dX5_cutOut_65 : decode cX5_cutOut 65 = .ok (.iconst 0, 1) := by decide +kernel
theorem dX5_cutOut_66 : decode cX5_cutOut 66 = .ok (.aload_n 1, 1) := by decide +kernel
theorem dX5_cutOut_67 : decode cX5_cutOut 67 = .ok (.getfield 25, 3) := by decide +kernel
theorem dX5_cutOut_70 : decode cX5_cutOut 70 = .ok (.invokevirtual 45, 3) := by decide +kernel
theorem dX5_cutOut_73 : decode cX5_cutOut 73 = .ok (.return_, 1) := by decide +kernel
theorem dX5_add_0 : decode cX5_add 0 = .ok (.aload_n 0, 1) := by decide +kernel
theorem dX5_add_1 : decode cX5_add 1 = .ok (.getfield 21, 3) := by decide +kernel
theorem dX5_add_4 : decode cX5_add 4 = .ok (.bipush 120, 2) := by decide +kernel
theorem dX5_add_6 : decode cX5_add 6 = .ok (.if_icmp .gt 43, 3) := by decide +kernel
theorem dX5_add_9 : decode cX5_add 9 = .ok (.aload_n 0, 1) := by decide +kernel
theorem dX5_add_10 : decode cX5_add 10 = .ok (.getfield 9, 3) := by decide +kernel
theorem dX5_add_13 : decode cX5_add 13 = .ok (.aload_n 0, 1) := by decide +kernel
theorem dX5_add_14 : decode cX5_add 14 = .ok (.getfield 21, 3) := by decide +kernel
theorem dX5_add_17 : decode cX5_add 17 = .ok (.iload_n 1, 1) := by decide +kernel
theorem dX5_add_18 : decode cX5_add 18 = .ok (.iastore, 1) := by decide +kernel
theorem dX5_add_19 : decode cX5_add 19 = .ok (.aload_n 0, 1) := by decide +kernel
theorem dX5_add_20 : decode cX5_add 20 = .ok (.getfield 15, 3) := by decide +kernel
theorem dX5_add_23 : decode cX5_add 23 = .ok (.aload_n 0, 1) := by decide +kernel
theorem dX5_add_24 : decode cX5_add 24 = .ok (.getfield 21, 3) := by decide +kernel
theorem dX5_add_27 : decode cX5_add 27 = .ok (.iload_n 2, 1) := by decide +kernel
theorem dX5_add_28 : decode cX5_add 28 = .ok (.iastore, 1) := by decide +kernel
theorem dX5_add_29 : decode cX5_add 29 = .ok (.aload_n 0, 1) := by decide +kernel
theorem dX5_add_30 : decode cX5_add 30 = .ok (.getfield 18, 3) := by decide +kernel
theorem dX5_add_33 : decode cX5_add 33 = .ok (.aload_n 0, 1) := by decide +kernel
theorem dX5_add_34 : decode cX5_add 34 = .ok (.getfield 21, 3) := by decide +kernel
theorem dX5_add_37 : decode cX5_add 37 = .ok (.iload_n 3, 1) := by decide +kernel
theorem dX5_add_38 : decode cX5_add 38 = .ok (.iastore, 1) := by decide +kernel
theorem dX5_add_39 : decode cX5_add 39 = .ok (.aload_n 0, 1) := by decide +kernel
theorem dX5_add_40 : decode cX5_add 40 = .ok (.dup, 1) := by decide +kernel
theorem dX5_add_41 : decode cX5_add 41 = .ok (.getfield 21, 3) := by decide +kernel
theorem dX5_add_44 : decode cX5_add 44 = .ok (.iconst 1, 1) := by decide +kernel
theorem dX5_add_45 : decode cX5_add 45 = .ok (.iadd, 1) := by decide +kernel
theorem dX5_add_46 : decode cX5_add 46 = .ok (.putfield 21, 3) := by decide +kernel
theorem dX5_add_49 : decode cX5_add 49 = .ok (.return_, 1) := by decide +kernel
set_option maxRecDepth 20000 in
theorem ggX5_tokenEnd_X5_isLetter : GoodIn wsX5_tokenEnd wsX5_isLetter := goodIn_r _ [6] (by decide +kernel) (by decide +kernel)
set_option maxRecDepth 20000 in
theorem gX5_tokenEnd_X5_isLetter : GoodIn wsX5_tokenEnd (va_wsS RX5 49 yX5_isLetter wsX5_isLetter) := goodIn_app (goodIn_of _ (by decide +kernel)) ggX5_tokenEnd_X5_isLetter
set_option maxRecDepth 20000 in
theorem ggX5_tokenEnd_X5_isDigit : GoodIn wsX5_tokenEnd wsX5_isDigit := goodIn_r _ [9] (by decide +kernel) (by decide +kernel)
set_option maxRecDepth 20000 in
theorem gX5_tokenEnd_X5_isDigit : GoodIn wsX5_tokenEnd (va_wsS RX5 53 yX5_isDigit wsX5_isDigit) := goodIn_app (goodIn_of _ (by decide +kernel)) ggX5_tokenEnd_X5_isDigit
theorem dX5_tokenEnd_0 : decode cX5_tokenEnd 0 = .ok (.iload_n 1, 1) := by decide +kernel
theorem dX5_tokenEnd_1 : decode cX5_tokenEnd 1 = .ok (.iconst 1, 1) := by decide +kernel
theorem dX5_tokenEnd_2 : decode cX5_tokenEnd 2 = .ok (.iadd, 1) := by decide +kernel
theorem dX5_tokenEnd_3 : decode cX5_tokenEnd 3 = .ok (.istore_n 2, 1) := by decide +kernel
theorem dX5_tokenEnd_4 : decode cX5_tokenEnd 4 = .ok (.aload_n 0, 1) := by decide +kernel
theorem dX5_tokenEnd_5 : decode cX5_tokenEnd 5 = .ok (.getfield 30, 3) := by decide +kernel
theorem dX5_tokenEnd_8 : decode cX5_tokenEnd 8 = .ok (.iload_n 1, 1) := by decide +kernel
theorem dX5_tokenEnd_9 : decode cX5_tokenEnd 9 = .ok (.baload, 1) := by decide +kernel
theorem dX5_tokenEnd_10 : decode cX5_tokenEnd 10 = .ok (.invokestatic 49, 3) := by decide +kernel
theorem dX5_tokenEnd_13 : decode cX5_tokenEnd 13 = .ok (.ifCond .eq 29, 3) := by decide +kernel
theorem dX5_tokenEnd_16 : decode cX5_tokenEnd 16 = .ok (.iload_n 2, 1) := by decide +kernel
theorem dX5_tokenEnd_17 : decode cX5_tokenEnd 17 = .ok (.aload_n 0, 1) := by decide +kernel
theorem dX5_tokenEnd_18 : decode cX5_tokenEnd 18 = .ok (.getfield 25, 3) := by decide +kernel
theorem dX5_tokenEnd_21 : decode cX5_tokenEnd 21 = .ok (.if_icmp .ge 59, 3) := by decide +kernel
theorem dX5_tokenEnd_24 : decode cX5_tokenEnd 24 = .ok (.aload_n 0, 1) := by decide +kernel
theorem dX5_tokenEnd_25 : decode cX5_tokenEnd 25 = .ok (.getfield 30, 3) := by decide +kernel
theorem dX5_tokenEnd_28 : decode cX5_tokenEnd 28 = .ok (.iload_n 2, 1) := by decide +kernel
theorem dX5_tokenEnd_29 : decode cX5_tokenEnd 29 = .ok (.baload, 1) := by decide +kernel
theorem dX5_tokenEnd_30 : decode cX5_tokenEnd 30 = .ok (.invokestatic 49, 3) := by decide +kernel
theorem dX5_tokenEnd_33 : decode cX5_tokenEnd 33 = .ok (.ifCond .eq 47, 3) := by decide +kernel
theorem dX5_tokenEnd_36 : decode cX5_tokenEnd 36 = .ok (.iinc 2 1, 3) := by decide +kernel
theorem dX5_tokenEnd_39 : decode cX5_tokenEnd 39 = .ok (.goto (-23), 3) := by decide +kernel
theorem dX5_tokenEnd_42 : decode cX5_tokenEnd 42 = .ok (.aload_n 0, 1) := by decide +kernel
theorem dX5_tokenEnd_43 : decode cX5_tokenEnd 43 = .ok (.getfield 30, 3) := by decide +kernel
theorem dX5_tokenEnd_46 : decode cX5_tokenEnd 46 = .ok (.iload_n 1, 1) := by decide +kernel
theorem dX5_tokenEnd_47 : decode cX5_tokenEnd 47 = .ok (.baload, 1) := by decide +kernel
theorem dX5_tokenEnd_48 : decode cX5_tokenEnd 48 = .ok (.invokestatic 53, 3) := by decide +kernel
theorem dX5_tokenEnd_51 : decode cX5_tokenEnd 51 = .ok (.ifCond .eq 29, 3) := by decide +kernel
theorem dX5_tokenEnd_54 : decode cX5_tokenEnd 54 = .ok (.iload_n 2, 1) := by decide +kernel
theorem dX5_tokenEnd_55 : decode cX5_tokenEnd 55 = .ok (.aload_n 0, 1) := by decide +kernel
theorem dX5_tokenEnd_56 : decode cX5_tokenEnd 56 = .ok (.getfield 25, 3) := by decide +kernel
theorem dX5_tokenEnd_59 : decode cX5_tokenEnd 59 = .ok (.if_icmp .ge 21, 3) := by decide +kernel
theorem dX5_tokenEnd_62 : decode cX5_tokenEnd 62 = .ok (.aload_n 0, 1) := by decide +kernel
theorem dX5_tokenEnd_63 : decode cX5_tokenEnd 63 = .ok (.getfield 30, 3) := by decide +kernel
theorem dX5_tokenEnd_66 : decode cX5_tokenEnd 66 = .ok (.iload_n 2, 1) := by decide +kernel
theorem dX5_tokenEnd_67 : decode cX5_tokenEnd 67 = .ok (.baload, 1) := by decide +kernel
theorem dX5_tokenEnd_68 : decode cX5_tokenEnd 68 = .ok (.invokestatic 53, 3) := by decide +kernel
theorem dX5_tokenEnd_71 : decode cX5_tokenEnd 71 = .ok (.ifCond .eq 9, 3) := by decide +kernel
theorem dX5_tokenEnd_74 : decode cX5_tokenEnd 74 = .ok (.iinc 2 1, 3) := by decide +kernel
theorem dX5_tokenEnd_77 : decode cX5_tokenEnd 77 = .ok (.goto (-23), 3) := by decide +kernel
theorem dX5_tokenEnd_80 : decode cX5_tokenEnd 80 = .ok (.iload_n 2, 1) := by decide +kernel
theorem dX5_tokenEnd_81 : decode cX5_tokenEnd 81 = .ok (.ireturn, 1) := by decide +kernel
set_option maxRecDepth 20000 in
theorem ggX5_codeOf_X5_isDigit : GoodIn wsX5_codeOf wsX5_isDigit := goodIn_r _ [5] (by decide +kernel) (by decide +kernel)
set_option maxRecDepth 20000 in
theorem gX5_codeOf_X5_isDigit : GoodIn wsX5_codeOf (va_wsS RX5 53 yX5_isDigit wsX5_isDigit) := goodIn_app (goodIn_of _ (by decide +kernel)) ggX5_codeOf_X5_isDigit
set_option maxRecDepth 20000 in
theorem ggX5_codeOf_X5_wordOf : GoodIn wsX5_codeOf wsX5_wordOf := goodIn_r _ [8] (by decide +kernel) (by decide +kernel)
set_option maxRecDepth 20000 in
theorem gX5_codeOf_X5_wordOf : GoodIn wsX5_codeOf (va_wsS RX5 56 yX5_wordOf wsX5_wordOf) := goodIn_app (goodIn_of _ (by decide +kernel)) ggX5_codeOf_X5_wordOf
set_option maxRecDepth 20000 in
theorem ggX5_codeOf_X5_isWordAt : GoodIn wsX5_codeOf wsX5_isWordAt := goodIn_r _ [11, 1, 12, 13, 14, 15, 16, 17, 18, 19, 20, 21, 22, 23, 24, 25, 26, 27, 28, 29, 30, 31, 32, 33, 34, 35, 36, 37, 38, 39, 40, 41, 42, 43, 44, 45, 46, 47, 48, 49, 50, 51, 52, 53, 54, 55, 56, 57, 58, 59, 60, 61, 62] (by decide +kernel) (by decide +kernel)
set_option maxRecDepth 20000 in
theorem gX5_codeOf_X5_isWordAt : GoodIn wsX5_codeOf (va_wsS RX5 60 yX5_isWordAt wsX5_isWordAt) := goodIn_app (goodIn_of _ (by decide +kernel)) ggX5_codeOf_X5_isWordAt
theorem dX5_codeOf_0 : decode cX5_codeOf 0 = .ok (.aload_n 0, 1) := by decide +kernel
theorem dX5_codeOf_1 : decode cX5_codeOf 1 = .ok (.getfield 30, 3) := by decide +kernel
theorem dX5_codeOf_4 : decode cX5_codeOf 4 = .ok (.iload_n 1, 1) := by decide +kernel
theorem dX5_codeOf_5 : decode cX5_codeOf 5 = .ok (.baload, 1) := by decide +kernel
theorem dX5_codeOf_6 : decode cX5_codeOf 6 = .ok (.invokestatic 53, 3) := by decide +kernel
theorem dX5_codeOf_9 : decode cX5_codeOf 9 = .ok (.ifCond .eq 6, 3) := by decide +kernel
theorem dX5_codeOf_12 : decode cX5_codeOf 12 = .ok (.bipush 15, 2) := by decide +kernel
theorem dX5_codeOf_14 : decode cX5_codeOf 14 = .ok (.ireturn, 1) := by decide +kernel
theorem dX5_codeOf_15 : decode cX5_codeOf 15 = .ok (.aload_n 0, 1) := by decide +kernel
theorem dX5_codeOf_16 : decode cX5_codeOf 16 = .ok (.getfield 30, 3) := by decide +kernel
theorem dX5_codeOf_19 : decode cX5_codeOf 19 = .ok (.iload_n 1, 1) := by decide +kernel
theorem dX5_codeOf_20 : decode cX5_codeOf 20 = .ok (.baload, 1) := by decide +kernel
theorem dX5_codeOf_21 : decode cX5_codeOf 21 = .ok (.bipush 59, 2) := by decide +kernel
theorem dX5_codeOf_23 : decode cX5_codeOf 23 = .ok (.if_icmp .ne 6, 3) := by decide +kernel
theorem dX5_codeOf_26 : decode cX5_codeOf 26 = .ok (.bipush 16, 2) := by decide +kernel
theorem dX5_codeOf_28 : decode cX5_codeOf 28 = .ok (.ireturn, 1) := by decide +kernel
theorem dX5_codeOf_29 : decode cX5_codeOf 29 = .ok (.iconst 0, 1) := by decide +kernel
theorem dX5_codeOf_30 : decode cX5_codeOf 30 = .ok (.istore_n 3, 1) := by decide +kernel
theorem dX5_codeOf_31 : decode cX5_codeOf 31 = .ok (.iload_n 3, 1) := by decide +kernel
theorem dX5_codeOf_32 : decode cX5_codeOf 32 = .ok (.bipush 15, 2) := by decide +kernel
theorem dX5_codeOf_34 : decode cX5_codeOf 34 = .ok (.if_icmp .ge 24, 3) := by decide +kernel
theorem dX5_codeOf_37 : decode cX5_codeOf 37 = .ok (.aload_n 0, 1) := by decide +kernel
theorem dX5_codeOf_38 : decode cX5_codeOf 38 = .ok (.iload_n 1, 1) := by decide +kernel
theorem dX5_codeOf_39 : decode cX5_codeOf 39 = .ok (.iload_n 2, 1) := by decide +kernel
theorem dX5_codeOf_40 : decode cX5_codeOf 40 = .ok (.iload_n 3, 1) := by decide +kernel
theorem dX5_codeOf_41 : decode cX5_codeOf 41 = .ok (.invokestatic 56, 3) := by decide +kernel
theorem dX5_codeOf_44 : decode cX5_codeOf 44 = .ok (.invokestatic 60, 3) := by decide +kernel
theorem dX5_codeOf_47 : decode cX5_codeOf 47 = .ok (.ifCond .eq 5, 3) := by decide +kernel
theorem dX5_codeOf_50 : decode cX5_codeOf 50 = .ok (.iload_n 3, 1) := by decide +kernel
theorem dX5_codeOf_51 : decode cX5_codeOf 51 = .ok (.ireturn, 1) := by decide +kernel
theorem dX5_codeOf_52 : decode cX5_codeOf 52 = .ok (.iinc 3 1, 3) := by decide +kernel
theorem dX5_codeOf_55 : decode cX5_codeOf 55 = .ok (.goto (-24), 3) := by decide +kernel
theorem dX5_codeOf_58 : decode cX5_codeOf 58 = .ok (.bipush 18, 2) := by decide +kernel
theorem dX5_codeOf_60 : decode cX5_codeOf 60 = .ok (.ireturn, 1) := by decide +kernel
set_option maxRecDepth 20000 in
theorem ggX5_numberOf_X5_isDigit : GoodIn wsX5_numberOf wsX5_isDigit := goodIn_r _ [9] (by decide +kernel) (by decide +kernel)
set_option maxRecDepth 20000 in
theorem gX5_numberOf_X5_isDigit : GoodIn wsX5_numberOf (va_wsS RX5 53 yX5_isDigit wsX5_isDigit) := goodIn_app (goodIn_of _ (by decide +kernel)) ggX5_numberOf_X5_isDigit
theorem dX5_numberOf_0 : decode cX5_numberOf 0 = .ok (.iconst 0, 1) := by decide +kernel
theorem dX5_numberOf_1 : decode cX5_numberOf 1 = .ok (.istore_n 3, 1) := by decide +kernel
theorem dX5_numberOf_2 : decode cX5_numberOf 2 = .ok (.iload_n 1, 1) := by decide +kernel
theorem dX5_numberOf_3 : decode cX5_numberOf 3 = .ok (.istore 4, 2) := by decide +kernel
theorem dX5_numberOf_5 : decode cX5_numberOf 5 = .ok (.iload 4, 2) := by decide +kernel
theorem dX5_numberOf_7 : decode cX5_numberOf 7 = .ok (.iload_n 2, 1) := by decide +kernel
theorem dX5_numberOf_8 : decode cX5_numberOf 8 = .ok (.if_icmp .ge 44, 3) := by decide +kernel
theorem dX5_numberOf_11 : decode cX5_numberOf 11 = .ok (.aload_n 0, 1) := by decide +kernel
theorem dX5_numberOf_12 : decode cX5_numberOf 12 = .ok (.getfield 30, 3) := by decide +kernel
theorem dX5_numberOf_15 : decode cX5_numberOf 15 = .ok (.iload 4, 2) := by decide +kernel
theorem dX5_numberOf_17 : decode cX5_numberOf 17 = .ok (.baload, 1) := by decide +kernel
theorem dX5_numberOf_18 : decode cX5_numberOf 18 = .ok (.invokestatic 53, 3) := by decide +kernel
theorem dX5_numberOf_21 : decode cX5_numberOf 21 = .ok (.ifCond .eq 31, 3) := by decide +kernel
theorem dX5_numberOf_24 : decode cX5_numberOf 24 = .ok (.sipush 1000, 3) := by decide +kernel
theorem dX5_numberOf_27 : decode cX5_numberOf 27 = .ok (.iload_n 3, 1) := by decide +kernel
theorem dX5_numberOf_28 : decode cX5_numberOf 28 = .ok (.bipush 10, 2) := by decide +kernel
theorem dX5_numberOf_30 : decode cX5_numberOf 30 = .ok (.imul, 1) := by decide +kernel
theorem dX5_numberOf_31 : decode cX5_numberOf 31 = .ok (.aload_n 0, 1) := by decide +kernel
theorem dX5_numberOf_32 : decode cX5_numberOf 32 = .ok (.getfield 30, 3) := by decide +kernel
theorem dX5_numberOf_35 : decode cX5_numberOf 35 = .ok (.iload 4, 2) := by decide +kernel
theorem dX5_numberOf_37 : decode cX5_numberOf 37 = .ok (.baload, 1) := by decide +kernel
theorem dX5_numberOf_38 : decode cX5_numberOf 38 = .ok (.bipush 48, 2) := by decide +kernel
theorem dX5_numberOf_40 : decode cX5_numberOf 40 = .ok (.isub, 1) := by decide +kernel
theorem dX5_numberOf_41 : decode cX5_numberOf 41 = .ok (.iadd, 1) := by decide +kernel
theorem dX5_numberOf_42 : decode cX5_numberOf 42 = .ok (.invokestatic 64, 3) := by decide +kernel
theorem dX5_numberOf_45 : decode cX5_numberOf 45 = .ok (.istore_n 3, 1) := by decide +kernel
theorem dX5_numberOf_46 : decode cX5_numberOf 46 = .ok (.iinc 4 1, 3) := by decide +kernel
theorem dX5_numberOf_49 : decode cX5_numberOf 49 = .ok (.goto (-44), 3) := by decide +kernel
theorem dX5_numberOf_52 : decode cX5_numberOf 52 = .ok (.iload_n 3, 1) := by decide +kernel
theorem dX5_numberOf_53 : decode cX5_numberOf 53 = .ok (.ireturn, 1) := by decide +kernel
set_option maxRecDepth 20000 in
theorem ggX5_isWordAt_J0_length_8abf5 : GoodIn wsX5_isWordAt wsJ0_length_8abf5 := goodIn_r _ [6, 7, 8, 9, 10, 5, 11, 12, 13] (by decide +kernel) (by decide +kernel)
set_option maxRecDepth 20000 in
theorem gX5_isWordAt_J0_length_8abf5 : GoodIn wsX5_isWordAt (wsV RX5 70 RJ0 yJ0_length_8abf5 wsJ0_length_8abf5) := goodIn_app (goodIn_of _ (by decide +kernel)) ggX5_isWordAt_J0_length_8abf5
set_option maxRecDepth 20000 in
theorem ggX5_isWordAt_J0_charAt_5068e : GoodIn wsX5_isWordAt wsJ0_charAt_5068e := goodIn_r _ [17, 7, 18, 19, 20, 5, 21, 12, 13, 22, 23, 24, 25, 26, 27, 28, 29, 30, 31, 32, 33, 34, 35, 36, 37, 38, 39, 40, 41, 42, 43, 44, 45, 46, 47, 48, 49, 50] (by decide +kernel) (by decide +kernel)
set_option maxRecDepth 20000 in
theorem gX5_isWordAt_J0_charAt_5068e : GoodIn wsX5_isWordAt (wsV RX5 76 RJ0 yJ0_charAt_5068e wsJ0_charAt_5068e) := goodIn_app (goodIn_of _ (by decide +kernel)) ggX5_isWordAt_J0_charAt_5068e
theorem dX5_isWordAt_0 : decode cX5_isWordAt 0 = .ok (.iload_n 2, 1) := by decide +kernel
theorem dX5_isWordAt_1 : decode cX5_isWordAt 1 = .ok (.iload_n 1, 1) := by decide +kernel
theorem dX5_isWordAt_2 : decode cX5_isWordAt 2 = .ok (.isub, 1) := by decide +kernel
theorem dX5_isWordAt_3 : decode cX5_isWordAt 3 = .ok (.aload_n 3, 1) := by decide +kernel
theorem dX5_isWordAt_4 : decode cX5_isWordAt 4 = .ok (.invokevirtual 70, 3) := by decide +kernel
theorem dX5_isWordAt_7 : decode cX5_isWordAt 7 = .ok (.if_icmp .eq 5, 3) := by decide +kernel
theorem dX5_isWordAt_10 : decode cX5_isWordAt 10 = .ok (.iconst 0, 1) := by decide +kernel
theorem dX5_isWordAt_11 : decode cX5_isWordAt 11 = .ok (.ireturn, 1) := by decide +kernel
theorem dX5_isWordAt_12 : decode cX5_isWordAt 12 = .ok (.iconst 0, 1) := by decide +kernel
theorem dX5_isWordAt_13 : decode cX5_isWordAt 13 = .ok (.istore 4, 2) := by decide +kernel
theorem dX5_isWordAt_15 : decode cX5_isWordAt 15 = .ok (.iload 4, 2) := by decide +kernel
theorem dX5_isWordAt_17 : decode cX5_isWordAt 17 = .ok (.aload_n 3, 1) := by decide +kernel
theorem dX5_isWordAt_18 : decode cX5_isWordAt 18 = .ok (.invokevirtual 70, 3) := by decide +kernel
theorem dX5_isWordAt_21 : decode cX5_isWordAt 21 = .ok (.if_icmp .ge 29, 3) := by decide +kernel
theorem dX5_isWordAt_24 : decode cX5_isWordAt 24 = .ok (.aload_n 0, 1) := by decide +kernel
theorem dX5_isWordAt_25 : decode cX5_isWordAt 25 = .ok (.getfield 30, 3) := by decide +kernel
theorem dX5_isWordAt_28 : decode cX5_isWordAt 28 = .ok (.iload_n 1, 1) := by decide +kernel
theorem dX5_isWordAt_29 : decode cX5_isWordAt 29 = .ok (.iload 4, 2) := by decide +kernel
theorem dX5_isWordAt_31 : decode cX5_isWordAt 31 = .ok (.iadd, 1) := by decide +kernel
theorem dX5_isWordAt_32 : decode cX5_isWordAt 32 = .ok (.baload, 1) := by decide +kernel
theorem dX5_isWordAt_33 : decode cX5_isWordAt 33 = .ok (.aload_n 3, 1) := by decide +kernel
theorem dX5_isWordAt_34 : decode cX5_isWordAt 34 = .ok (.iload 4, 2) := by decide +kernel
theorem dX5_isWordAt_36 : decode cX5_isWordAt 36 = .ok (.invokevirtual 76, 3) := by decide +kernel
theorem dX5_isWordAt_39 : decode cX5_isWordAt 39 = .ok (.if_icmp .eq 5, 3) := by decide +kernel
theorem dX5_isWordAt_42 : decode cX5_isWordAt 42 = .ok (.iconst 0, 1) := by decide +kernel
theorem dX5_isWordAt_43 : decode cX5_isWordAt 43 = .ok (.ireturn, 1) := by decide +kernel
theorem dX5_isWordAt_44 : decode cX5_isWordAt 44 = .ok (.iinc 4 1, 3) := by decide +kernel
theorem dX5_isWordAt_47 : decode cX5_isWordAt 47 = .ok (.goto (-32), 3) := by decide +kernel
theorem dX5_isWordAt_50 : decode cX5_isWordAt 50 = .ok (.iconst 1, 1) := by decide +kernel
theorem dX5_isWordAt_51 : decode cX5_isWordAt 51 = .ok (.ireturn, 1) := by decide +kernel
theorem dX5_isLetter_0 : decode cX5_isLetter 0 = .ok (.iload_n 0, 1) := by decide +kernel
theorem dX5_isLetter_1 : decode cX5_isLetter 1 = .ok (.bipush 97, 2) := by decide +kernel
theorem dX5_isLetter_3 : decode cX5_isLetter 3 = .ok (.if_icmp .lt 13, 3) := by decide +kernel
theorem dX5_isLetter_6 : decode cX5_isLetter 6 = .ok (.iload_n 0, 1) := by decide +kernel
theorem dX5_isLetter_7 : decode cX5_isLetter 7 = .ok (.bipush 122, 2) := by decide +kernel
theorem dX5_isLetter_9 : decode cX5_isLetter 9 = .ok (.if_icmp .gt 7, 3) := by decide +kernel
theorem dX5_isLetter_12 : decode cX5_isLetter 12 = .ok (.iconst 1, 1) := by decide +kernel
theorem dX5_isLetter_13 : decode cX5_isLetter 13 = .ok (.goto 4, 3) := by decide +kernel
theorem dX5_isLetter_16 : decode cX5_isLetter 16 = .ok (.iconst 0, 1) := by decide +kernel
theorem dX5_isLetter_17 : decode cX5_isLetter 17 = .ok (.ireturn, 1) := by decide +kernel
theorem dX5_isDigit_0 : decode cX5_isDigit 0 = .ok (.iload_n 0, 1) := by decide +kernel
theorem dX5_isDigit_1 : decode cX5_isDigit 1 = .ok (.bipush 48, 2) := by decide +kernel
theorem dX5_isDigit_3 : decode cX5_isDigit 3 = .ok (.if_icmp .lt 13, 3) := by decide +kernel
theorem dX5_isDigit_6 : decode cX5_isDigit 6 = .ok (.iload_n 0, 1) := by decide +kernel
theorem dX5_isDigit_7 : decode cX5_isDigit 7 = .ok (.bipush 57, 2) := by decide +kernel
theorem dX5_isDigit_9 : decode cX5_isDigit 9 = .ok (.if_icmp .gt 7, 3) := by decide +kernel
theorem dX5_isDigit_12 : decode cX5_isDigit 12 = .ok (.iconst 1, 1) := by decide +kernel
theorem dX5_isDigit_13 : decode cX5_isDigit 13 = .ok (.goto 4, 3) := by decide +kernel
theorem dX5_isDigit_16 : decode cX5_isDigit 16 = .ok (.iconst 0, 1) := by decide +kernel
theorem dX5_isDigit_17 : decode cX5_isDigit 17 = .ok (.ireturn, 1) := by decide +kernel
theorem dX5_wordOf_0 : decode cX5_wordOf 0 = .ok (.iload_n 0, 1) := by decide +kernel
theorem dX5_wordOf_1 : decode cX5_wordOf 1 = .ok (.tableswitch 113 0 13 #[71, 74, 77, 80, 83, 86, 89, 92, 95, 98, 101, 104, 107, 110], 71) := by decide +kernel
theorem dX5_wordOf_72 : decode cX5_wordOf 72 = .ok (.ldc 80, 2) := by decide +kernel
theorem dX5_wordOf_74 : decode cX5_wordOf 74 = .ok (.areturn, 1) := by decide +kernel
theorem dX5_wordOf_75 : decode cX5_wordOf 75 = .ok (.ldc 82, 2) := by decide +kernel
theorem dX5_wordOf_77 : decode cX5_wordOf 77 = .ok (.areturn, 1) := by decide +kernel
theorem dX5_wordOf_78 : decode cX5_wordOf 78 = .ok (.ldc 84, 2) := by decide +kernel
theorem dX5_wordOf_80 : decode cX5_wordOf 80 = .ok (.areturn, 1) := by decide +kernel
theorem dX5_wordOf_81 : decode cX5_wordOf 81 = .ok (.ldc 86, 2) := by decide +kernel
theorem dX5_wordOf_83 : decode cX5_wordOf 83 = .ok (.areturn, 1) := by decide +kernel
theorem dX5_wordOf_84 : decode cX5_wordOf 84 = .ok (.ldc 88, 2) := by decide +kernel
theorem dX5_wordOf_86 : decode cX5_wordOf 86 = .ok (.areturn, 1) := by decide +kernel
theorem dX5_wordOf_87 : decode cX5_wordOf 87 = .ok (.ldc 90, 2) := by decide +kernel
theorem dX5_wordOf_89 : decode cX5_wordOf 89 = .ok (.areturn, 1) := by decide +kernel
theorem dX5_wordOf_90 : decode cX5_wordOf 90 = .ok (.ldc 92, 2) := by decide +kernel
theorem dX5_wordOf_92 : decode cX5_wordOf 92 = .ok (.areturn, 1) := by decide +kernel
theorem dX5_wordOf_93 : decode cX5_wordOf 93 = .ok (.ldc 94, 2) := by decide +kernel
theorem dX5_wordOf_95 : decode cX5_wordOf 95 = .ok (.areturn, 1) := by decide +kernel
theorem dX5_wordOf_96 : decode cX5_wordOf 96 = .ok (.ldc 96, 2) := by decide +kernel
theorem dX5_wordOf_98 : decode cX5_wordOf 98 = .ok (.areturn, 1) := by decide +kernel
theorem dX5_wordOf_99 : decode cX5_wordOf 99 = .ok (.ldc 98, 2) := by decide +kernel
theorem dX5_wordOf_101 : decode cX5_wordOf 101 = .ok (.areturn, 1) := by decide +kernel
theorem dX5_wordOf_102 : decode cX5_wordOf 102 = .ok (.ldc 100, 2) := by decide +kernel
theorem dX5_wordOf_104 : decode cX5_wordOf 104 = .ok (.areturn, 1) := by decide +kernel
theorem dX5_wordOf_105 : decode cX5_wordOf 105 = .ok (.ldc 102, 2) := by decide +kernel
theorem dX5_wordOf_107 : decode cX5_wordOf 107 = .ok (.areturn, 1) := by decide +kernel
theorem dX5_wordOf_108 : decode cX5_wordOf 108 = .ok (.ldc 104, 2) := by decide +kernel
theorem dX5_wordOf_110 : decode cX5_wordOf 110 = .ok (.areturn, 1) := by decide +kernel
theorem dX5_wordOf_111 : decode cX5_wordOf 111 = .ok (.ldc 106, 2) := by decide +kernel
theorem dX5_wordOf_113 : decode cX5_wordOf 113 = .ok (.areturn, 1) := by decide +kernel
theorem dX5_wordOf_114 : decode cX5_wordOf 114 = .ok (.ldc 108, 2) := by decide +kernel
theorem dX5_wordOf_116 : decode cX5_wordOf 116 = .ok (.areturn, 1) := by decide +kernel
theorem dX6_init_0 : decode cX6_init 0 = .ok (.aload_n 0, 1) := by decide +kernel
theorem dX6_init_1 : decode cX6_init 1 = .ok (.invokespecial 3, 3) := by decide +kernel
theorem dX6_init_4 : decode cX6_init 4 = .ok (.aload_n 0, 1) := by decide +kernel
theorem dX6_init_5 : decode cX6_init 5 = .ok (.bipush 16, 2) := by decide +kernel
theorem dX6_init_7 : decode cX6_init 7 = .ok (.newarray .int, 2) := by decide +kernel
theorem dX6_init_9 : decode cX6_init 9 = .ok (.putfield 9, 3) := by decide +kernel
theorem dX6_init_12 : decode cX6_init 12 = .ok (.aload_n 0, 1) := by decide +kernel
theorem dX6_init_13 : decode cX6_init 13 = .ok (.bipush 16, 2) := by decide +kernel
theorem dX6_init_15 : decode cX6_init 15 = .ok (.newarray .int, 2) := by decide +kernel
theorem dX6_init_17 : decode cX6_init 17 = .ok (.putfield 15, 3) := by decide +kernel
theorem dX6_init_20 : decode cX6_init 20 = .ok (.return_, 1) := by decide +kernel
set_option maxRecDepth 20000 in
theorem ggX6_spreadFrom_J7_fill_53178 : GoodIn wsX6_spreadFrom wsJ7_fill_53178 := goodIn_r _ [6] (by decide +kernel) (by decide +kernel)
set_option maxRecDepth 20000 in
theorem gX6_spreadFrom_J7_fill_53178 : GoodIn wsX6_spreadFrom (va_wsS RX6 18 yJ7_fill_53178 wsJ7_fill_53178) := goodIn_app (goodIn_of _ (by decide +kernel)) ggX6_spreadFrom_J7_fill_53178
set_option maxRecDepth 20000 in
theorem ggX6_spreadFrom_X8_stepsBetween : GoodIn wsX6_spreadFrom wsX8_stepsBetween := goodIn_r _ [9, 10, 11, 12, 13] (by decide +kernel) (by decide +kernel)
set_option maxRecDepth 20000 in
theorem gX6_spreadFrom_X8_stepsBetween_n24 : GoodIn wsX6_spreadFrom (wsX8_stepsBetween) := ggX6_spreadFrom_X8_stepsBetween
theorem dX6_spreadFrom_0 : decode cX6_spreadFrom 0 = .ok (.aload_n 0, 1) := by decide +kernel
theorem dX6_spreadFrom_1 : decode cX6_spreadFrom 1 = .ok (.getfield 9, 3) := by decide +kernel
theorem dX6_spreadFrom_4 : decode cX6_spreadFrom 4 = .ok (.iconst (-1), 1) := by decide +kernel
theorem dX6_spreadFrom_5 : decode cX6_spreadFrom 5 = .ok (.invokestatic 18, 3) := by decide +kernel
theorem dX6_spreadFrom_8 : decode cX6_spreadFrom 8 = .ok (.aload_n 1, 1) := by decide +kernel
theorem dX6_spreadFrom_9 : decode cX6_spreadFrom 9 = .ok (.iload_n 2, 1) := by decide +kernel
theorem dX6_spreadFrom_10 : decode cX6_spreadFrom 10 = .ok (.iaload, 1) := by decide +kernel
theorem dX6_spreadFrom_11 : decode cX6_spreadFrom 11 = .ok (.iload_n 3, 1) := by decide +kernel
theorem dX6_spreadFrom_12 : decode cX6_spreadFrom 12 = .ok (.if_icmp .le 4, 3) := by decide +kernel
theorem dX6_spreadFrom_15 : decode cX6_spreadFrom 15 = .ok (.return_, 1) := by decide +kernel
theorem dX6_spreadFrom_16 : decode cX6_spreadFrom 16 = .ok (.iconst 0, 1) := by decide +kernel
theorem dX6_spreadFrom_17 : decode cX6_spreadFrom 17 = .ok (.istore 4, 2) := by decide +kernel
theorem dX6_spreadFrom_19 : decode cX6_spreadFrom 19 = .ok (.aload_n 0, 1) := by decide +kernel
theorem dX6_spreadFrom_20 : decode cX6_spreadFrom 20 = .ok (.getfield 9, 3) := by decide +kernel
theorem dX6_spreadFrom_23 : decode cX6_spreadFrom 23 = .ok (.iload_n 2, 1) := by decide +kernel
theorem dX6_spreadFrom_24 : decode cX6_spreadFrom 24 = .ok (.iconst 0, 1) := by decide +kernel
theorem dX6_spreadFrom_25 : decode cX6_spreadFrom 25 = .ok (.iastore, 1) := by decide +kernel
theorem dX6_spreadFrom_26 : decode cX6_spreadFrom 26 = .ok (.aload_n 0, 1) := by decide +kernel
theorem dX6_spreadFrom_27 : decode cX6_spreadFrom 27 = .ok (.getfield 15, 3) := by decide +kernel
theorem dX6_spreadFrom_30 : decode cX6_spreadFrom 30 = .ok (.iload 4, 2) := by decide +kernel
theorem dX6_spreadFrom_32 : decode cX6_spreadFrom 32 = .ok (.iinc 4 1, 3) := by decide +kernel
theorem dX6_spreadFrom_35 : decode cX6_spreadFrom 35 = .ok (.iload_n 2, 1) := by decide +kernel
theorem dX6_spreadFrom_36 : decode cX6_spreadFrom 36 = .ok (.iastore, 1) := by decide +kernel
theorem dX6_spreadFrom_37 : decode cX6_spreadFrom 37 = .ok (.iconst 0, 1) := by decide +kernel
theorem dX6_spreadFrom_38 : decode cX6_spreadFrom 38 = .ok (.istore 5, 2) := by decide +kernel
theorem dX6_spreadFrom_40 : decode cX6_spreadFrom 40 = .ok (.iload 5, 2) := by decide +kernel
theorem dX6_spreadFrom_42 : decode cX6_spreadFrom 42 = .ok (.iload 4, 2) := by decide +kernel
theorem dX6_spreadFrom_44 : decode cX6_spreadFrom 44 = .ok (.if_icmp .ge 117, 3) := by decide +kernel
theorem dX6_spreadFrom_47 : decode cX6_spreadFrom 47 = .ok (.iload 5, 2) := by decide +kernel
theorem dX6_spreadFrom_49 : decode cX6_spreadFrom 49 = .ok (.bipush 16, 2) := by decide +kernel
theorem dX6_spreadFrom_51 : decode cX6_spreadFrom 51 = .ok (.if_icmp .ge 110, 3) := by decide +kernel
theorem dX6_spreadFrom_54 : decode cX6_spreadFrom 54 = .ok (.aload_n 0, 1) := by decide +kernel
theorem dX6_spreadFrom_55 : decode cX6_spreadFrom 55 = .ok (.getfield 15, 3) := by decide +kernel
theorem dX6_spreadFrom_58 : decode cX6_spreadFrom 58 = .ok (.iload 5, 2) := by decide +kernel
theorem dX6_spreadFrom_60 : decode cX6_spreadFrom 60 = .ok (.iaload, 1) := by decide +kernel
theorem dX6_spreadFrom_61 : decode cX6_spreadFrom 61 = .ok (.istore 6, 2) := by decide +kernel
theorem dX6_spreadFrom_63 : decode cX6_spreadFrom 63 = .ok (.iconst 0, 1) := by decide +kernel
theorem dX6_spreadFrom_64 : decode cX6_spreadFrom 64 = .ok (.istore 7, 2) := by decide +kernel
theorem dX6_spreadFrom_66 : decode cX6_spreadFrom 66 = .ok (.iload 7, 2) := by decide +kernel
theorem dX6_spreadFrom_68 : decode cX6_spreadFrom 68 = .ok (.bipush 16, 2) := by decide +kernel
theorem dX6_spreadFrom_70 : decode cX6_spreadFrom 70 = .ok (.if_icmp .ge 85, 3) := by decide +kernel
theorem dX6_spreadFrom_73 : decode cX6_spreadFrom 73 = .ok (.iload 6, 2) := by decide +kernel
theorem dX6_spreadFrom_75 : decode cX6_spreadFrom 75 = .ok (.iload 7, 2) := by decide +kernel
theorem dX6_spreadFrom_77 : decode cX6_spreadFrom 77 = .ok (.invokestatic 24, 3) := by decide +kernel
theorem dX6_spreadFrom_80 : decode cX6_spreadFrom 80 = .ok (.iconst 1, 1) := by decide +kernel
theorem dX6_spreadFrom_81 : decode cX6_spreadFrom 81 = .ok (.if_icmp .ne 15, 3) := by decide +kernel
theorem dX6_spreadFrom_84 : decode cX6_spreadFrom 84 = .ok (.aload_n 1, 1) := by decide +kernel
theorem dX6_spreadFrom_85 : decode cX6_spreadFrom 85 = .ok (.iload 7, 2) := by decide +kernel
theorem dX6_spreadFrom_87 : decode cX6_spreadFrom 87 = .ok (.iaload, 1) := by decide +kernel
theorem dX6_spreadFrom_88 : decode cX6_spreadFrom 88 = .ok (.iload_n 3, 1) := by decide +kernel
theorem dX6_spreadFrom_89 : decode cX6_spreadFrom 89 = .ok (.if_icmp .gt 7, 3) := by decide +kernel
theorem dX6_spreadFrom_92 : decode cX6_spreadFrom 92 = .ok (.iconst 1, 1) := by decide +kernel
theorem dX6_spreadFrom_93 : decode cX6_spreadFrom 93 = .ok (.goto 4, 3) := by decide +kernel
theorem dX6_spreadFrom_96 : decode cX6_spreadFrom 96 = .ok (.iconst 0, 1) := by decide +kernel
theorem dX6_spreadFrom_97 : decode cX6_spreadFrom 97 = .ok (.istore 8, 2) := by decide +kernel
theorem dX6_spreadFrom_99 : decode cX6_spreadFrom 99 = .ok (.iload 8, 2) := by decide +kernel
theorem dX6_spreadFrom_101 : decode cX6_spreadFrom 101 = .ok (.ifCond .eq 48, 3) := by decide +kernel
theorem dX6_spreadFrom_104 : decode cX6_spreadFrom 104 = .ok (.aload_n 0, 1) := by decide +kernel
theorem dX6_spreadFrom_105 : decode cX6_spreadFrom 105 = .ok (.getfield 9, 3) := by decide +kernel
theorem dX6_spreadFrom_108 : decode cX6_spreadFrom 108 = .ok (.iload 7, 2) := by decide +kernel
theorem dX6_spreadFrom_110 : decode cX6_spreadFrom 110 = .ok (.iaload, 1) := by decide +kernel
theorem dX6_spreadFrom_111 : decode cX6_spreadFrom 111 = .ok (.ifCond .ge 38, 3) := by decide +kernel
theorem dX6_spreadFrom_114 : decode cX6_spreadFrom 114 = .ok (.iload 4, 2) := by decide +kernel
theorem dX6_spreadFrom_116 : decode cX6_spreadFrom 116 = .ok (.bipush 16, 2) := by decide +kernel
theorem dX6_spreadFrom_118 : decode cX6_spreadFrom 118 = .ok (.if_icmp .ge 31, 3) := by decide +kernel
theorem dX6_spreadFrom_121 : decode cX6_spreadFrom 121 = .ok (.aload_n 0, 1) := by decide +kernel
theorem dX6_spreadFrom_122 : decode cX6_spreadFrom 122 = .ok (.getfield 9, 3) := by decide +kernel
theorem dX6_spreadFrom_125 : decode cX6_spreadFrom 125 = .ok (.iload 7, 2) := by decide +kernel
theorem dX6_spreadFrom_127 : decode cX6_spreadFrom 127 = .ok (.aload_n 0, 1) := by decide +kernel
theorem dX6_spreadFrom_128 : decode cX6_spreadFrom 128 = .ok (.getfield 9, 3) := by decide +kernel
theorem dX6_spreadFrom_131 : decode cX6_spreadFrom 131 = .ok (.iload 6, 2) := by decide +kernel
theorem dX6_spreadFrom_133 : decode cX6_spreadFrom 133 = .ok (.iaload, 1) := by decide +kernel
theorem dX6_spreadFrom_134 : decode cX6_spreadFrom 134 = .ok (.iconst 1, 1) := by decide +kernel
theorem dX6_spreadFrom_135 : decode cX6_spreadFrom 135 = .ok (.iadd, 1) := by decide +kernel
theorem dX6_spreadFrom_136 : decode cX6_spreadFrom 136 = .ok (.iastore, 1) := by decide +kernel
theorem dX6_spreadFrom_137 : decode cX6_spreadFrom 137 = .ok (.aload_n 0, 1) := by decide +kernel
theorem dX6_spreadFrom_138 : decode cX6_spreadFrom 138 = .ok (.getfield 15, 3) := by decide +kernel
theorem dX6_spreadFrom_141 : decode cX6_spreadFrom 141 = .ok (.iload 4, 2) := by decide +kernel
theorem dX6_spreadFrom_143 : decode cX6_spreadFrom 143 = .ok (.iinc 4 1, 3) := by decide +kernel
theorem dX6_spreadFrom_146 : decode cX6_spreadFrom 146 = .ok (.iload 7, 2) := by decide +kernel
theorem dX6_spreadFrom_148 : decode cX6_spreadFrom 148 = .ok (.iastore, 1) := by decide +kernel
theorem dX6_spreadFrom_149 : decode cX6_spreadFrom 149 = .ok (.iinc 7 1, 3) := by decide +kernel
theorem dX6_spreadFrom_152 : decode cX6_spreadFrom 152 = .ok (.goto (-86), 3) := by decide +kernel
theorem dX6_spreadFrom_155 : decode cX6_spreadFrom 155 = .ok (.iinc 5 1, 3) := by decide +kernel
theorem dX6_spreadFrom_158 : decode cX6_spreadFrom 158 = .ok (.goto (-118), 3) := by decide +kernel
theorem dX6_spreadFrom_161 : decode cX6_spreadFrom 161 = .ok (.return_, 1) := by decide +kernel
set_option maxRecDepth 20000 in
theorem ggX6_nextFrom_X8_stepsBetween : GoodIn wsX6_nextFrom wsX8_stepsBetween := goodIn_r _ [4, 5, 6, 7, 8] (by decide +kernel) (by decide +kernel)
set_option maxRecDepth 20000 in
theorem gX6_nextFrom_X8_stepsBetween_n24 : GoodIn wsX6_nextFrom (wsX8_stepsBetween) := ggX6_nextFrom_X8_stepsBetween
theorem dX6_nextFrom_0 : decode cX6_nextFrom 0 = .ok (.aload_n 0, 1) := by decide +kernel
theorem dX6_nextFrom_1 : decode cX6_nextFrom 1 = .ok (.getfield 9, 3) := by decide +kernel
theorem dX6_nextFrom_4 : decode cX6_nextFrom 4 = .ok (.iload_n 1, 1) := by decide +kernel
theorem dX6_nextFrom_5 : decode cX6_nextFrom 5 = .ok (.iaload, 1) := by decide +kernel
theorem dX6_nextFrom_6 : decode cX6_nextFrom 6 = .ok (.ifCond .gt 5, 3) := by decide +kernel
theorem dX6_nextFrom_9 : decode cX6_nextFrom 9 = .ok (.iconst (-1), 1) := by decide +kernel
theorem dX6_nextFrom_10 : decode cX6_nextFrom 10 = .ok (.ireturn, 1) := by decide +kernel
theorem dX6_nextFrom_11 : decode cX6_nextFrom 11 = .ok (.iconst 0, 1) := by decide +kernel
theorem dX6_nextFrom_12 : decode cX6_nextFrom 12 = .ok (.istore_n 2, 1) := by decide +kernel
theorem dX6_nextFrom_13 : decode cX6_nextFrom 13 = .ok (.iload_n 2, 1) := by decide +kernel
theorem dX6_nextFrom_14 : decode cX6_nextFrom 14 = .ok (.bipush 16, 2) := by decide +kernel
theorem dX6_nextFrom_16 : decode cX6_nextFrom 16 = .ok (.if_icmp .ge 37, 3) := by decide +kernel
theorem dX6_nextFrom_19 : decode cX6_nextFrom 19 = .ok (.iload_n 1, 1) := by decide +kernel
theorem dX6_nextFrom_20 : decode cX6_nextFrom 20 = .ok (.iload_n 2, 1) := by decide +kernel
theorem dX6_nextFrom_21 : decode cX6_nextFrom 21 = .ok (.invokestatic 24, 3) := by decide +kernel
theorem dX6_nextFrom_24 : decode cX6_nextFrom 24 = .ok (.iconst 1, 1) := by decide +kernel
theorem dX6_nextFrom_25 : decode cX6_nextFrom 25 = .ok (.if_icmp .ne 22, 3) := by decide +kernel
theorem dX6_nextFrom_28 : decode cX6_nextFrom 28 = .ok (.aload_n 0, 1) := by decide +kernel
theorem dX6_nextFrom_29 : decode cX6_nextFrom 29 = .ok (.getfield 9, 3) := by decide +kernel
theorem dX6_nextFrom_32 : decode cX6_nextFrom 32 = .ok (.iload_n 2, 1) := by decide +kernel
theorem dX6_nextFrom_33 : decode cX6_nextFrom 33 = .ok (.iaload, 1) := by decide +kernel
theorem dX6_nextFrom_34 : decode cX6_nextFrom 34 = .ok (.aload_n 0, 1) := by decide +kernel
theorem dX6_nextFrom_35 : decode cX6_nextFrom 35 = .ok (.getfield 9, 3) := by decide +kernel
theorem dX6_nextFrom_38 : decode cX6_nextFrom 38 = .ok (.iload_n 1, 1) := by decide +kernel
theorem dX6_nextFrom_39 : decode cX6_nextFrom 39 = .ok (.iaload, 1) := by decide +kernel
theorem dX6_nextFrom_40 : decode cX6_nextFrom 40 = .ok (.iconst 1, 1) := by decide +kernel
theorem dX6_nextFrom_41 : decode cX6_nextFrom 41 = .ok (.isub, 1) := by decide +kernel
theorem dX6_nextFrom_42 : decode cX6_nextFrom 42 = .ok (.if_icmp .ne 5, 3) := by decide +kernel
theorem dX6_nextFrom_45 : decode cX6_nextFrom 45 = .ok (.iload_n 2, 1) := by decide +kernel
theorem dX6_nextFrom_46 : decode cX6_nextFrom 46 = .ok (.ireturn, 1) := by decide +kernel
theorem dX6_nextFrom_47 : decode cX6_nextFrom 47 = .ok (.iinc 2 1, 3) := by decide +kernel
theorem dX6_nextFrom_50 : decode cX6_nextFrom 50 = .ok (.goto (-37), 3) := by decide +kernel
theorem dX6_nextFrom_53 : decode cX6_nextFrom 53 = .ok (.iconst (-1), 1) := by decide +kernel
theorem dX6_nextFrom_54 : decode cX6_nextFrom 54 = .ok (.ireturn, 1) := by decide +kernel
set_option maxRecDepth 20000 in
theorem ggX6_leastGlare_X6_spreadFrom : GoodIn wsX6_leastGlare wsX6_spreadFrom := goodIn_r _ [10, 5, 11, 12, 13, 14, 15, 16, 17, 18, 19, 20, 3, 21, 22, 23] (by decide +kernel) (by decide +kernel)
set_option maxRecDepth 20000 in
theorem gX6_leastGlare_X6_spreadFrom : GoodIn wsX6_leastGlare (wsV RX6 33 RX6 yX6_spreadFrom wsX6_spreadFrom) := goodIn_app (goodIn_of _ (by decide +kernel)) ggX6_leastGlare_X6_spreadFrom
theorem dX6_leastGlare_0 : decode cX6_leastGlare 0 = .ok (.aload_n 1, 1) := by decide +kernel
theorem dX6_leastGlare_1 : decode cX6_leastGlare 1 = .ok (.iload_n 2, 1) := by decide +kernel
theorem dX6_leastGlare_2 : decode cX6_leastGlare 2 = .ok (.iaload, 1) := by decide +kernel
theorem dX6_leastGlare_3 : decode cX6_leastGlare 3 = .ok (.aload_n 1, 1) := by decide +kernel
theorem dX6_leastGlare_4 : decode cX6_leastGlare 4 = .ok (.iload_n 3, 1) := by decide +kernel
theorem dX6_leastGlare_5 : decode cX6_leastGlare 5 = .ok (.iaload, 1) := by decide +kernel
theorem dX6_leastGlare_6 : decode cX6_leastGlare 6 = .ok (.invokestatic 28, 3) := by decide +kernel
theorem dX6_leastGlare_9 : decode cX6_leastGlare 9 = .ok (.istore 4, 2) := by decide +kernel
theorem dX6_leastGlare_11 : decode cX6_leastGlare 11 = .ok (.iload 4, 2) := by decide +kernel
theorem dX6_leastGlare_13 : decode cX6_leastGlare 13 = .ok (.istore 5, 2) := by decide +kernel
theorem dX6_leastGlare_15 : decode cX6_leastGlare 15 = .ok (.iconst 0, 1) := by decide +kernel
theorem dX6_leastGlare_16 : decode cX6_leastGlare 16 = .ok (.istore 6, 2) := by decide +kernel
theorem dX6_leastGlare_18 : decode cX6_leastGlare 18 = .ok (.iload 6, 2) := by decide +kernel
theorem dX6_leastGlare_20 : decode cX6_leastGlare 20 = .ok (.bipush 16, 2) := by decide +kernel
theorem dX6_leastGlare_22 : decode cX6_leastGlare 22 = .ok (.if_icmp .ge 20, 3) := by decide +kernel
theorem dX6_leastGlare_25 : decode cX6_leastGlare 25 = .ok (.iload 5, 2) := by decide +kernel
theorem dX6_leastGlare_27 : decode cX6_leastGlare 27 = .ok (.aload_n 1, 1) := by decide +kernel
theorem dX6_leastGlare_28 : decode cX6_leastGlare 28 = .ok (.iload 6, 2) := by decide +kernel
theorem dX6_leastGlare_30 : decode cX6_leastGlare 30 = .ok (.iaload, 1) := by decide +kernel
theorem dX6_leastGlare_31 : decode cX6_leastGlare 31 = .ok (.invokestatic 28, 3) := by decide +kernel
theorem dX6_leastGlare_34 : decode cX6_leastGlare 34 = .ok (.istore 5, 2) := by decide +kernel
theorem dX6_leastGlare_36 : decode cX6_leastGlare 36 = .ok (.iinc 6 1, 3) := by decide +kernel
theorem dX6_leastGlare_39 : decode cX6_leastGlare 39 = .ok (.goto (-21), 3) := by decide +kernel
theorem dX6_leastGlare_42 : decode cX6_leastGlare 42 = .ok (.iconst 0, 1) := by decide +kernel
theorem dX6_leastGlare_43 : decode cX6_leastGlare 43 = .ok (.istore 6, 2) := by decide +kernel
theorem dX6_leastGlare_45 : decode cX6_leastGlare 45 = .ok (.iload 6, 2) := by decide +kernel
theorem dX6_leastGlare_47 : decode cX6_leastGlare 47 = .ok (.bipush 16, 2) := by decide +kernel
theorem dX6_leastGlare_49 : decode cX6_leastGlare 49 = .ok (.if_icmp .ge 55, 3) := by decide +kernel
theorem dX6_leastGlare_52 : decode cX6_leastGlare 52 = .ok (.aload_n 1, 1) := by decide +kernel
theorem dX6_leastGlare_53 : decode cX6_leastGlare 53 = .ok (.iload 6, 2) := by decide +kernel
theorem dX6_leastGlare_55 : decode cX6_leastGlare 55 = .ok (.iaload, 1) := by decide +kernel
theorem dX6_leastGlare_56 : decode cX6_leastGlare 56 = .ok (.istore 7, 2) := by decide +kernel
theorem dX6_leastGlare_58 : decode cX6_leastGlare 58 = .ok (.iload 7, 2) := by decide +kernel
theorem dX6_leastGlare_60 : decode cX6_leastGlare 60 = .ok (.iload 4, 2) := by decide +kernel
theorem dX6_leastGlare_62 : decode cX6_leastGlare 62 = .ok (.if_icmp .lt 36, 3) := by decide +kernel
theorem dX6_leastGlare_65 : decode cX6_leastGlare 65 = .ok (.iload 7, 2) := by decide +kernel
theorem dX6_leastGlare_67 : decode cX6_leastGlare 67 = .ok (.iload 5, 2) := by decide +kernel
theorem dX6_leastGlare_69 : decode cX6_leastGlare 69 = .ok (.if_icmp .ge 29, 3) := by decide +kernel
theorem dX6_leastGlare_72 : decode cX6_leastGlare 72 = .ok (.aload_n 0, 1) := by decide +kernel
theorem dX6_leastGlare_73 : decode cX6_leastGlare 73 = .ok (.aload_n 1, 1) := by decide +kernel
theorem dX6_leastGlare_74 : decode cX6_leastGlare 74 = .ok (.iload_n 3, 1) := by decide +kernel
theorem dX6_leastGlare_75 : decode cX6_leastGlare 75 = .ok (.iload 7, 2) := by decide +kernel
theorem dX6_leastGlare_77 : decode cX6_leastGlare 77 = .ok (.invokevirtual 33, 3) := by decide +kernel
theorem dX6_leastGlare_80 : decode cX6_leastGlare 80 = .ok (.aload_n 0, 1) := by decide +kernel
theorem dX6_leastGlare_81 : decode cX6_leastGlare 81 = .ok (.getfield 9, 3) := by decide +kernel
theorem dX6_leastGlare_84 : decode cX6_leastGlare 84 = .ok (.iload_n 2, 1) := by decide +kernel
theorem dX6_leastGlare_85 : decode cX6_leastGlare 85 = .ok (.iaload, 1) := by decide +kernel
theorem dX6_leastGlare_86 : decode cX6_leastGlare 86 = .ok (.ifCond .lt 8, 3) := by decide +kernel
theorem dX6_leastGlare_89 : decode cX6_leastGlare 89 = .ok (.iload 7, 2) := by decide +kernel
theorem dX6_leastGlare_91 : decode cX6_leastGlare 91 = .ok (.goto 5, 3) := by decide +kernel
theorem dX6_leastGlare_94 : decode cX6_leastGlare 94 = .ok (.iload 5, 2) := by decide +kernel
theorem dX6_leastGlare_96 : decode cX6_leastGlare 96 = .ok (.istore 5, 2) := by decide +kernel
theorem dX6_leastGlare_98 : decode cX6_leastGlare 98 = .ok (.iinc 6 1, 3) := by decide +kernel
theorem dX6_leastGlare_101 : decode cX6_leastGlare 101 = .ok (.goto (-56), 3) := by decide +kernel
theorem dX6_leastGlare_104 : decode cX6_leastGlare 104 = .ok (.iload 5, 2) := by decide +kernel
theorem dX6_leastGlare_106 : decode cX6_leastGlare 106 = .ok (.ireturn, 1) := by decide +kernel
theorem dX7_init_0 : decode cX7_init 0 = .ok (.aload_n 0, 1) := by decide +kernel
theorem dX7_init_1 : decode cX7_init 1 = .ok (.invokespecial 3, 3) := by decide +kernel
theorem dX7_init_4 : decode cX7_init 4 = .ok (.aload_n 0, 1) := by decide +kernel
theorem dX7_init_5 : decode cX7_init 5 = .ok (.iconst 0, 1) := by decide +kernel
theorem dX7_init_6 : decode cX7_init 6 = .ok (.putfield 9, 3) := by decide +kernel
theorem dX7_init_9 : decode cX7_init 9 = .ok (.aload_n 0, 1) := by decide +kernel
theorem dX7_init_10 : decode cX7_init 10 = .ok (.bipush 16, 2) := by decide +kernel
theorem dX7_init_12 : decode cX7_init 12 = .ok (.newarray .int, 2) := by decide +kernel
theorem dX7_init_14 : decode cX7_init 14 = .ok (.putfield 15, 3) := by decide +kernel
theorem dX7_init_17 : decode cX7_init 17 = .ok (.aload_n 0, 1) := by decide +kernel
theorem dX7_init_18 : decode cX7_init 18 = .ok (.iconst 0, 1) := by decide +kernel
theorem dX7_init_19 : decode cX7_init 19 = .ok (.putfield 19, 3) := by decide +kernel
theorem dX7_init_22 : decode cX7_init 22 = .ok (.aload_n 0, 1) := by decide +kernel
theorem dX7_init_23 : decode cX7_init 23 = .ok (.bipush 10, 2) := by decide +kernel
theorem dX7_init_25 : decode cX7_init 25 = .ok (.newarray .int, 2) := by decide +kernel
theorem dX7_init_27 : decode cX7_init 27 = .ok (.putfield 22, 3) := by decide +kernel
theorem dX7_init_30 : decode cX7_init 30 = .ok (.aload_n 0, 1) := by decide +kernel
theorem dX7_init_31 : decode cX7_init 31 = .ok (.bipush 10, 2) := by decide +kernel
theorem dX7_init_33 : decode cX7_init 33 = .ok (.newarray .int, 2) := by decide +kernel
theorem dX7_init_35 : decode cX7_init 35 = .ok (.putfield 25, 3) := by decide +kernel
theorem dX7_init_38 : decode cX7_init 38 = .ok (.aload_n 0, 1) := by decide +kernel
theorem dX7_init_39 : decode cX7_init 39 = .ok (.bipush 10, 2) := by decide +kernel
theorem dX7_init_41 : decode cX7_init 41 = .ok (.newarray .int, 2) := by decide +kernel
theorem dX7_init_43 : decode cX7_init 43 = .ok (.putfield 28, 3) := by decide +kernel
theorem dX7_init_46 : decode cX7_init 46 = .ok (.aload_n 0, 1) := by decide +kernel
theorem dX7_init_47 : decode cX7_init 47 = .ok (.bipush 10, 2) := by decide +kernel
theorem dX7_init_49 : decode cX7_init 49 = .ok (.newarray .int, 2) := by decide +kernel
theorem dX7_init_51 : decode cX7_init 51 = .ok (.putfield 31, 3) := by decide +kernel
theorem dX7_init_54 : decode cX7_init 54 = .ok (.aload_n 0, 1) := by decide +kernel
theorem dX7_init_55 : decode cX7_init 55 = .ok (.bipush 10, 2) := by decide +kernel
theorem dX7_init_57 : decode cX7_init 57 = .ok (.newarray .int, 2) := by decide +kernel
theorem dX7_init_59 : decode cX7_init 59 = .ok (.putfield 34, 3) := by decide +kernel
theorem dX7_init_62 : decode cX7_init 62 = .ok (.aload_n 0, 1) := by decide +kernel
theorem dX7_init_63 : decode cX7_init 63 = .ok (.iconst 0, 1) := by decide +kernel
theorem dX7_init_64 : decode cX7_init 64 = .ok (.putfield 37, 3) := by decide +kernel
theorem dX7_init_67 : decode cX7_init 67 = .ok (.aload_n 0, 1) := by decide +kernel
theorem dX7_init_68 : decode cX7_init 68 = .ok (.bipush 8, 2) := by decide +kernel
theorem dX7_init_70 : decode cX7_init 70 = .ok (.newarray .int, 2) := by decide +kernel
theorem dX7_init_72 : decode cX7_init 72 = .ok (.putfield 40, 3) := by decide +kernel
theorem dX7_init_75 : decode cX7_init 75 = .ok (.aload_n 0, 1) := by decide +kernel
theorem dX7_init_76 : decode cX7_init 76 = .ok (.bipush 8, 2) := by decide +kernel
theorem dX7_init_78 : decode cX7_init 78 = .ok (.newarray .int, 2) := by decide +kernel
theorem dX7_init_80 : decode cX7_init 80 = .ok (.putfield 43, 3) := by decide +kernel
theorem dX7_init_83 : decode cX7_init 83 = .ok (.aload_n 0, 1) := by decide +kernel
theorem dX7_init_84 : decode cX7_init 84 = .ok (.bipush 8, 2) := by decide +kernel
theorem dX7_init_86 : decode cX7_init 86 = .ok (.newarray .int, 2) := by decide +kernel
theorem dX7_init_88 : decode cX7_init 88 = .ok (.putfield 46, 3) := by decide +kernel
theorem dX7_init_91 : decode cX7_init 91 = .ok (.return_, 1) := by decide +kernel
theorem dX7_becomeAs_0 : decode cX7_becomeAs 0 = .ok (.aload_n 0, 1) := by decide +kernel
theorem dX7_becomeAs_1 : decode cX7_becomeAs 1 = .ok (.aload_n 1, 1) := by decide +kernel
theorem dX7_becomeAs_2 : decode cX7_becomeAs 2 = .ok (.getfield 9, 3) := by decide +kernel
theorem dX7_becomeAs_5 : decode cX7_becomeAs 5 = .ok (.putfield 9, 3) := by decide +kernel
theorem dX7_becomeAs_8 : decode cX7_becomeAs 8 = .ok (.aload_n 1, 1) := by decide +kernel
theorem dX7_becomeAs_9 : decode cX7_becomeAs 9 = .ok (.getfield 15, 3) := by decide +kernel
theorem dX7_becomeAs_12 : decode cX7_becomeAs 12 = .ok (.iconst 0, 1) := by decide +kernel
theorem dX7_becomeAs_13 : decode cX7_becomeAs 13 = .ok (.aload_n 0, 1) := by decide +kernel
theorem dX7_becomeAs_14 : decode cX7_becomeAs 14 = .ok (.getfield 15, 3) := by decide +kernel
theorem dX7_becomeAs_17 : decode cX7_becomeAs 17 = .ok (.iconst 0, 1) := by decide +kernel
theorem dX7_becomeAs_18 : decode cX7_becomeAs 18 = .ok (.bipush 16, 2) := by decide +kernel
theorem dX7_becomeAs_20 : decode cX7_becomeAs 20 = .ok (.invokestatic 49, 3) := by decide +kernel
theorem dX7_becomeAs_23 : decode cX7_becomeAs 23 = .ok (.aload_n 0, 1) := by decide +kernel
theorem dX7_becomeAs_24 : decode cX7_becomeAs 24 = .ok (.aload_n 1, 1) := by decide +kernel
theorem dX7_becomeAs_25 : decode cX7_becomeAs 25 = .ok (.getfield 19, 3) := by decide +kernel
theorem dX7_becomeAs_28 : decode cX7_becomeAs 28 = .ok (.putfield 19, 3) := by decide +kernel
theorem dX7_becomeAs_31 : decode cX7_becomeAs 31 = .ok (.aload_n 1, 1) := by decide +kernel
theorem dX7_becomeAs_32 : decode cX7_becomeAs 32 = .ok (.getfield 22, 3) := by decide +kernel
theorem dX7_becomeAs_35 : decode cX7_becomeAs 35 = .ok (.iconst 0, 1) := by decide +kernel
theorem dX7_becomeAs_36 : decode cX7_becomeAs 36 = .ok (.aload_n 0, 1) := by decide +kernel
theorem dX7_becomeAs_37 : decode cX7_becomeAs 37 = .ok (.getfield 22, 3) := by decide +kernel
theorem dX7_becomeAs_40 : decode cX7_becomeAs 40 = .ok (.iconst 0, 1) := by decide +kernel
theorem dX7_becomeAs_41 : decode cX7_becomeAs 41 = .ok (.bipush 10, 2) := by decide +kernel
theorem dX7_becomeAs_43 : decode cX7_becomeAs 43 = .ok (.invokestatic 49, 3) := by decide +kernel
theorem dX7_becomeAs_46 : decode cX7_becomeAs 46 = .ok (.aload_n 1, 1) := by decide +kernel
theorem dX7_becomeAs_47 : decode cX7_becomeAs 47 = .ok (.getfield 25, 3) := by decide +kernel
theorem dX7_becomeAs_50 : decode cX7_becomeAs 50 = .ok (.iconst 0, 1) := by decide +kernel
theorem dX7_becomeAs_51 : decode cX7_becomeAs 51 = .ok (.aload_n 0, 1) := by decide +kernel
theorem dX7_becomeAs_52 : decode cX7_becomeAs 52 = .ok (.getfield 25, 3) := by decide +kernel
theorem dX7_becomeAs_55 : decode cX7_becomeAs 55 = .ok (.iconst 0, 1) := by decide +kernel
theorem dX7_becomeAs_56 : decode cX7_becomeAs 56 = .ok (.bipush 10, 2) := by decide +kernel
theorem dX7_becomeAs_58 : decode cX7_becomeAs 58 = .ok (.invokestatic 49, 3) := by decide +kernel
theorem dX7_becomeAs_61 : decode cX7_becomeAs 61 = .ok (.aload_n 1, 1) := by decide +kernel
theorem dX7_becomeAs_62 : decode cX7_becomeAs 62 = .ok (.getfield 28, 3) := by decide +kernel
theorem dX7_becomeAs_65 : decode cX7_becomeAs 65 = .ok (.iconst 0, 1) := by decide +kernel
theorem dX7_becomeAs_66 : decode cX7_becomeAs 66 = .ok (.aload_n 0, 1) := by decide +kernel
theorem dX7_becomeAs_67 : decode cX7_becomeAs 67 = .ok (.getfield 28, 3) := by decide +kernel
theorem dX7_becomeAs_70 : decode cX7_becomeAs 70 = .ok (.iconst 0, 1) := by decide +kernel
theorem dX7_becomeAs_71 : decode cX7_becomeAs 71 = .ok (.bipush 10, 2) := by decide +kernel
theorem dX7_becomeAs_73 : decode cX7_becomeAs 73 = .ok (.invokestatic 49, 3) := by decide +kernel
theorem dX7_becomeAs_76 : decode cX7_becomeAs 76 = .ok (.aload_n 1, 1) := by decide +kernel
theorem dX7_becomeAs_77 : decode cX7_becomeAs 77 = .ok (.getfield 31, 3) := by decide +kernel
theorem dX7_becomeAs_80 : decode cX7_becomeAs 80 = .ok (.iconst 0, 1) := by decide +kernel
theorem dX7_becomeAs_81 : decode cX7_becomeAs 81 = .ok (.aload_n 0, 1) := by decide +kernel
theorem dX7_becomeAs_82 : decode cX7_becomeAs 82 = .ok (.getfield 31, 3) := by decide +kernel
theorem dX7_becomeAs_85 : decode cX7_becomeAs 85 = .ok (.iconst 0, 1) := by decide +kernel
theorem dX7_becomeAs_86 : decode cX7_becomeAs 86 = .ok (.bipush 10, 2) := by decide +kernel
theorem dX7_becomeAs_88 : decode cX7_becomeAs 88 = .ok (.invokestatic 49, 3) := by decide +kernel
theorem dX7_becomeAs_91 : decode cX7_becomeAs 91 = .ok (.aload_n 1, 1) := by decide +kernel
theorem dX7_becomeAs_92 : decode cX7_becomeAs 92 = .ok (.getfield 34, 3) := by decide +kernel
theorem dX7_becomeAs_95 : decode cX7_becomeAs 95 = .ok (.iconst 0, 1) := by decide +kernel
theorem dX7_becomeAs_96 : decode cX7_becomeAs 96 = .ok (.aload_n 0, 1) := by decide +kernel
theorem dX7_becomeAs_97 : decode cX7_becomeAs 97 = .ok (.getfield 34, 3) := by decide +kernel
theorem dX7_becomeAs_100 : decode cX7_becomeAs 100 = .ok (.iconst 0, 1) := by decide +kernel
theorem dX7_becomeAs_101 : decode cX7_becomeAs 101 = .ok (.bipush 10, 2) := by decide +kernel
theorem dX7_becomeAs_103 : decode cX7_becomeAs 103 = .ok (.invokestatic 49, 3) := by decide +kernel
theorem dX7_becomeAs_106 : decode cX7_becomeAs 106 = .ok (.aload_n 0, 1) := by decide +kernel
theorem dX7_becomeAs_107 : decode cX7_becomeAs 107 = .ok (.aload_n 1, 1) := by decide +kernel
theorem dX7_becomeAs_108 : decode cX7_becomeAs 108 = .ok (.getfield 37, 3) := by decide +kernel
theorem dX7_becomeAs_111 : decode cX7_becomeAs 111 = .ok (.putfield 37, 3) := by decide +kernel
theorem dX7_becomeAs_114 : decode cX7_becomeAs 114 = .ok (.aload_n 1, 1) := by decide +kernel
theorem dX7_becomeAs_115 : decode cX7_becomeAs 115 = .ok (.getfield 40, 3) := by decide +kernel
theorem dX7_becomeAs_118 : decode cX7_becomeAs 118 = .ok (.iconst 0, 1) := by decide +kernel
theorem dX7_becomeAs_119 : decode cX7_becomeAs 119 = .ok (.aload_n 0, 1) := by decide +kernel
theorem dX7_becomeAs_120 : decode cX7_becomeAs 120 = .ok (.getfield 40, 3) := by decide +kernel
theorem dX7_becomeAs_123 : decode cX7_becomeAs 123 = .ok (.iconst 0, 1) := by decide +kernel
theorem dX7_becomeAs_124 : decode cX7_becomeAs 124 = .ok (.bipush 8, 2) := by decide +kernel
theorem dX7_becomeAs_126 : decode cX7_becomeAs 126 = .ok (.invokestatic 49, 3) := by decide +kernel
theorem dX7_becomeAs_129 : decode cX7_becomeAs 129 = .ok (.aload_n 1, 1) := by decide +kernel
theorem dX7_becomeAs_130 : decode cX7_becomeAs 130 = .ok (.getfield 43, 3) := by decide +kernel
theorem dX7_becomeAs_133 : decode cX7_becomeAs 133 = .ok (.iconst 0, 1) := by decide +kernel
theorem dX7_becomeAs_134 : decode cX7_becomeAs 134 = .ok (.aload_n 0, 1) := by decide +kernel
theorem dX7_becomeAs_135 : decode cX7_becomeAs 135 = .ok (.getfield 43, 3) := by decide +kernel
theorem dX7_becomeAs_138 : decode cX7_becomeAs 138 = .ok (.iconst 0, 1) := by decide +kernel
theorem dX7_becomeAs_139 : decode cX7_becomeAs 139 = .ok (.bipush 8, 2) := by decide +kernel
theorem dX7_becomeAs_141 : decode cX7_becomeAs 141 = .ok (.invokestatic 49, 3) := by decide +kernel
theorem dX7_becomeAs_144 : decode cX7_becomeAs 144 = .ok (.aload_n 1, 1) := by decide +kernel
theorem dX7_becomeAs_145 : decode cX7_becomeAs 145 = .ok (.getfield 46, 3) := by decide +kernel
theorem dX7_becomeAs_148 : decode cX7_becomeAs 148 = .ok (.iconst 0, 1) := by decide +kernel
theorem dX7_becomeAs_149 : decode cX7_becomeAs 149 = .ok (.aload_n 0, 1) := by decide +kernel
theorem dX7_becomeAs_150 : decode cX7_becomeAs 150 = .ok (.getfield 46, 3) := by decide +kernel
theorem dX7_becomeAs_153 : decode cX7_becomeAs 153 = .ok (.iconst 0, 1) := by decide +kernel
theorem dX7_becomeAs_154 : decode cX7_becomeAs 154 = .ok (.bipush 8, 2) := by decide +kernel
theorem dX7_becomeAs_156 : decode cX7_becomeAs 156 = .ok (.invokestatic 49, 3) := by decide +kernel
theorem dX7_becomeAs_159 : decode cX7_becomeAs 159 = .ok (.return_, 1) := by decide +kernel
theorem dX7_hasBeing_0 : decode cX7_hasBeing 0 = .ok (.iload_n 1, 1) := by decide +kernel
theorem dX7_hasBeing_1 : decode cX7_hasBeing 1 = .ok (.ifCond .lt 15, 3) := by decide +kernel
theorem dX7_hasBeing_4 : decode cX7_hasBeing 4 = .ok (.iload_n 1, 1) := by decide +kernel
theorem dX7_hasBeing_5 : decode cX7_hasBeing 5 = .ok (.aload_n 0, 1) := by decide +kernel
theorem dX7_hasBeing_6 : decode cX7_hasBeing 6 = .ok (.getfield 19, 3) := by decide +kernel
theorem dX7_hasBeing_9 : decode cX7_hasBeing 9 = .ok (.if_icmp .ge 7, 3) := by decide +kernel
theorem dX7_hasBeing_12 : decode cX7_hasBeing 12 = .ok (.iconst 1, 1) := by decide +kernel
theorem dX7_hasBeing_13 : decode cX7_hasBeing 13 = .ok (.goto 4, 3) := by decide +kernel
theorem dX7_hasBeing_16 : decode cX7_hasBeing 16 = .ok (.iconst 0, 1) := by decide +kernel
theorem dX7_hasBeing_17 : decode cX7_hasBeing 17 = .ok (.ireturn, 1) := by decide +kernel
theorem dX7_hasTask_0 : decode cX7_hasTask 0 = .ok (.iload_n 1, 1) := by decide +kernel
theorem dX7_hasTask_1 : decode cX7_hasTask 1 = .ok (.ifCond .lt 15, 3) := by decide +kernel
theorem dX7_hasTask_4 : decode cX7_hasTask 4 = .ok (.iload_n 1, 1) := by decide +kernel
theorem dX7_hasTask_5 : decode cX7_hasTask 5 = .ok (.aload_n 0, 1) := by decide +kernel
theorem dX7_hasTask_6 : decode cX7_hasTask 6 = .ok (.getfield 37, 3) := by decide +kernel
theorem dX7_hasTask_9 : decode cX7_hasTask 9 = .ok (.if_icmp .ge 7, 3) := by decide +kernel
theorem dX7_hasTask_12 : decode cX7_hasTask 12 = .ok (.iconst 1, 1) := by decide +kernel
theorem dX7_hasTask_13 : decode cX7_hasTask 13 = .ok (.goto 4, 3) := by decide +kernel
theorem dX7_hasTask_16 : decode cX7_hasTask 16 = .ok (.iconst 0, 1) := by decide +kernel
theorem dX7_hasTask_17 : decode cX7_hasTask 17 = .ok (.ireturn, 1) := by decide +kernel
theorem dX7_addBeing_0 : decode cX7_addBeing 0 = .ok (.aload_n 0, 1) := by decide +kernel
theorem dX7_addBeing_1 : decode cX7_addBeing 1 = .ok (.getfield 19, 3) := by decide +kernel
theorem dX7_addBeing_4 : decode cX7_addBeing 4 = .ok (.bipush 10, 2) := by decide +kernel
theorem dX7_addBeing_6 : decode cX7_addBeing 6 = .ok (.if_icmp .lt 5, 3) := by decide +kernel
theorem dX7_addBeing_9 : decode cX7_addBeing 9 = .ok (.iconst (-1), 1) := by decide +kernel
theorem dX7_addBeing_10 : decode cX7_addBeing 10 = .ok (.ireturn, 1) := by decide +kernel
theorem dX7_addBeing_11 : decode cX7_addBeing 11 = .ok (.aload_n 0, 1) := by decide +kernel
theorem dX7_addBeing_12 : decode cX7_addBeing 12 = .ok (.getfield 22, 3) := by decide +kernel
theorem dX7_addBeing_15 : decode cX7_addBeing 15 = .ok (.aload_n 0, 1) := by decide +kernel
theorem dX7_addBeing_16 : decode cX7_addBeing 16 = .ok (.getfield 19, 3) := by decide +kernel
theorem dX7_addBeing_19 : decode cX7_addBeing 19 = .ok (.iload_n 1, 1) := by decide +kernel
theorem dX7_addBeing_20 : decode cX7_addBeing 20 = .ok (.iastore, 1) := by decide +kernel
theorem dX7_addBeing_21 : decode cX7_addBeing 21 = .ok (.aload_n 0, 1) := by decide +kernel
theorem dX7_addBeing_22 : decode cX7_addBeing 22 = .ok (.getfield 25, 3) := by decide +kernel
theorem dX7_addBeing_25 : decode cX7_addBeing 25 = .ok (.aload_n 0, 1) := by decide +kernel
theorem dX7_addBeing_26 : decode cX7_addBeing 26 = .ok (.getfield 19, 3) := by decide +kernel
theorem dX7_addBeing_29 : decode cX7_addBeing 29 = .ok (.iload_n 2, 1) := by decide +kernel
theorem dX7_addBeing_30 : decode cX7_addBeing 30 = .ok (.iastore, 1) := by decide +kernel
theorem dX7_addBeing_31 : decode cX7_addBeing 31 = .ok (.aload_n 0, 1) := by decide +kernel
theorem dX7_addBeing_32 : decode cX7_addBeing 32 = .ok (.getfield 28, 3) := by decide +kernel
theorem dX7_addBeing_35 : decode cX7_addBeing 35 = .ok (.aload_n 0, 1) := by decide +kernel
theorem dX7_addBeing_36 : decode cX7_addBeing 36 = .ok (.getfield 19, 3) := by decide +kernel
theorem dX7_addBeing_39 : decode cX7_addBeing 39 = .ok (.iload_n 2, 1) := by decide +kernel
theorem dX7_addBeing_40 : decode cX7_addBeing 40 = .ok (.iastore, 1) := by decide +kernel
theorem dX7_addBeing_41 : decode cX7_addBeing 41 = .ok (.aload_n 0, 1) := by decide +kernel
theorem dX7_addBeing_42 : decode cX7_addBeing 42 = .ok (.getfield 31, 3) := by decide +kernel
theorem dX7_addBeing_45 : decode cX7_addBeing 45 = .ok (.aload_n 0, 1) := by decide +kernel
theorem dX7_addBeing_46 : decode cX7_addBeing 46 = .ok (.getfield 19, 3) := by decide +kernel
theorem dX7_addBeing_49 : decode cX7_addBeing 49 = .ok (.bipush 20, 2) := by decide +kernel
theorem dX7_addBeing_51 : decode cX7_addBeing 51 = .ok (.iastore, 1) := by decide +kernel
theorem dX7_addBeing_52 : decode cX7_addBeing 52 = .ok (.aload_n 0, 1) := by decide +kernel
theorem dX7_addBeing_53 : decode cX7_addBeing 53 = .ok (.getfield 34, 3) := by decide +kernel
theorem dX7_addBeing_56 : decode cX7_addBeing 56 = .ok (.aload_n 0, 1) := by decide +kernel
theorem dX7_addBeing_57 : decode cX7_addBeing 57 = .ok (.getfield 19, 3) := by decide +kernel
theorem dX7_addBeing_60 : decode cX7_addBeing 60 = .ok (.iconst 0, 1) := by decide +kernel
theorem dX7_addBeing_61 : decode cX7_addBeing 61 = .ok (.iastore, 1) := by decide +kernel
theorem dX7_addBeing_62 : decode cX7_addBeing 62 = .ok (.aload_n 0, 1) := by decide +kernel
theorem dX7_addBeing_63 : decode cX7_addBeing 63 = .ok (.dup, 1) := by decide +kernel
theorem dX7_addBeing_64 : decode cX7_addBeing 64 = .ok (.getfield 19, 3) := by decide +kernel
theorem dX7_addBeing_67 : decode cX7_addBeing 67 = .ok (.iconst 1, 1) := by decide +kernel
theorem dX7_addBeing_68 : decode cX7_addBeing 68 = .ok (.iadd, 1) := by decide +kernel
theorem dX7_addBeing_69 : decode cX7_addBeing 69 = .ok (.putfield 19, 3) := by decide +kernel
theorem dX7_addBeing_72 : decode cX7_addBeing 72 = .ok (.aload_n 0, 1) := by decide +kernel
theorem dX7_addBeing_73 : decode cX7_addBeing 73 = .ok (.getfield 19, 3) := by decide +kernel
theorem dX7_addBeing_76 : decode cX7_addBeing 76 = .ok (.iconst 1, 1) := by decide +kernel
theorem dX7_addBeing_77 : decode cX7_addBeing 77 = .ok (.isub, 1) := by decide +kernel
theorem dX7_addBeing_78 : decode cX7_addBeing 78 = .ok (.ireturn, 1) := by decide +kernel
theorem dX7_addTask_0 : decode cX7_addTask 0 = .ok (.aload_n 0, 1) := by decide +kernel
theorem dX7_addTask_1 : decode cX7_addTask 1 = .ok (.getfield 37, 3) := by decide +kernel
theorem dX7_addTask_4 : decode cX7_addTask 4 = .ok (.bipush 8, 2) := by decide +kernel
theorem dX7_addTask_6 : decode cX7_addTask 6 = .ok (.if_icmp .lt 5, 3) := by decide +kernel
theorem dX7_addTask_9 : decode cX7_addTask 9 = .ok (.iconst (-1), 1) := by decide +kernel
theorem dX7_addTask_10 : decode cX7_addTask 10 = .ok (.ireturn, 1) := by decide +kernel
theorem dX7_addTask_11 : decode cX7_addTask 11 = .ok (.aload_n 0, 1) := by decide +kernel
theorem dX7_addTask_12 : decode cX7_addTask 12 = .ok (.getfield 40, 3) := by decide +kernel
theorem dX7_addTask_15 : decode cX7_addTask 15 = .ok (.aload_n 0, 1) := by decide +kernel
theorem dX7_addTask_16 : decode cX7_addTask 16 = .ok (.getfield 37, 3) := by decide +kernel
theorem dX7_addTask_19 : decode cX7_addTask 19 = .ok (.iload_n 1, 1) := by decide +kernel
theorem dX7_addTask_20 : decode cX7_addTask 20 = .ok (.iastore, 1) := by decide +kernel
theorem dX7_addTask_21 : decode cX7_addTask 21 = .ok (.aload_n 0, 1) := by decide +kernel
theorem dX7_addTask_22 : decode cX7_addTask 22 = .ok (.getfield 43, 3) := by decide +kernel
theorem dX7_addTask_25 : decode cX7_addTask 25 = .ok (.aload_n 0, 1) := by decide +kernel
theorem dX7_addTask_26 : decode cX7_addTask 26 = .ok (.getfield 37, 3) := by decide +kernel
theorem dX7_addTask_29 : decode cX7_addTask 29 = .ok (.iload_n 2, 1) := by decide +kernel
theorem dX7_addTask_30 : decode cX7_addTask 30 = .ok (.iastore, 1) := by decide +kernel
theorem dX7_addTask_31 : decode cX7_addTask 31 = .ok (.aload_n 0, 1) := by decide +kernel
theorem dX7_addTask_32 : decode cX7_addTask 32 = .ok (.getfield 46, 3) := by decide +kernel
theorem dX7_addTask_35 : decode cX7_addTask 35 = .ok (.aload_n 0, 1) := by decide +kernel
theorem dX7_addTask_36 : decode cX7_addTask 36 = .ok (.getfield 37, 3) := by decide +kernel
theorem dX7_addTask_39 : decode cX7_addTask 39 = .ok (.iload_n 3, 1) := by decide +kernel
theorem dX7_addTask_40 : decode cX7_addTask 40 = .ok (.iastore, 1) := by decide +kernel
theorem dX7_addTask_41 : decode cX7_addTask 41 = .ok (.aload_n 0, 1) := by decide +kernel
theorem dX7_addTask_42 : decode cX7_addTask 42 = .ok (.dup, 1) := by decide +kernel
theorem dX7_addTask_43 : decode cX7_addTask 43 = .ok (.getfield 37, 3) := by decide +kernel
theorem dX7_addTask_46 : decode cX7_addTask 46 = .ok (.iconst 1, 1) := by decide +kernel
theorem dX7_addTask_47 : decode cX7_addTask 47 = .ok (.iadd, 1) := by decide +kernel
theorem dX7_addTask_48 : decode cX7_addTask 48 = .ok (.putfield 37, 3) := by decide +kernel
theorem dX7_addTask_51 : decode cX7_addTask 51 = .ok (.aload_n 0, 1) := by decide +kernel
theorem dX7_addTask_52 : decode cX7_addTask 52 = .ok (.getfield 37, 3) := by decide +kernel
theorem dX7_addTask_55 : decode cX7_addTask 55 = .ok (.iconst 1, 1) := by decide +kernel
theorem dX7_addTask_56 : decode cX7_addTask 56 = .ok (.isub, 1) := by decide +kernel
theorem dX7_addTask_57 : decode cX7_addTask 57 = .ok (.ireturn, 1) := by decide +kernel
theorem dX7_feedBeing_0 : decode cX7_feedBeing 0 = .ok (.aload_n 0, 1) := by decide +kernel
theorem dX7_feedBeing_1 : decode cX7_feedBeing 1 = .ok (.getfield 31, 3) := by decide +kernel
theorem dX7_feedBeing_4 : decode cX7_feedBeing 4 = .ok (.iload_n 1, 1) := by decide +kernel
theorem dX7_feedBeing_5 : decode cX7_feedBeing 5 = .ok (.iload_n 2, 1) := by decide +kernel
theorem dX7_feedBeing_6 : decode cX7_feedBeing 6 = .ok (.iastore, 1) := by decide +kernel
theorem dX7_feedBeing_7 : decode cX7_feedBeing 7 = .ok (.aload_n 0, 1) := by decide +kernel
theorem dX7_feedBeing_8 : decode cX7_feedBeing 8 = .ok (.getfield 34, 3) := by decide +kernel
theorem dX7_feedBeing_11 : decode cX7_feedBeing 11 = .ok (.iload_n 1, 1) := by decide +kernel
theorem dX7_feedBeing_12 : decode cX7_feedBeing 12 = .ok (.iconst 0, 1) := by decide +kernel
theorem dX7_feedBeing_13 : decode cX7_feedBeing 13 = .ok (.iastore, 1) := by decide +kernel
theorem dX7_feedBeing_14 : decode cX7_feedBeing 14 = .ok (.return_, 1) := by decide +kernel
set_option maxRecDepth 20000 in
theorem ggX7_passHours_X7_standsOn : GoodIn wsX7_passHours wsX7_standsOn := goodIn_r _ [10, 2, 11, 12, 13, 14, 15, 16, 17, 18, 19, 20, 21, 22, 23, 24, 35, 36, 37, 38, 39, 40, 41, 42, 43, 44, 45, 46] (by decide +kernel) (by decide +kernel)
set_option maxRecDepth 20000 in
theorem gX7_passHours_X7_standsOn : GoodIn wsX7_passHours (wsV RX7 55 RX7 yX7_standsOn wsX7_standsOn) := goodIn_app (goodIn_of _ (by decide +kernel)) ggX7_passHours_X7_standsOn
set_option maxRecDepth 20000 in
theorem ggX7_passHours_X7_fastsOn : GoodIn wsX7_passHours wsX7_fastsOn := goodIn_r _ [28, 3, 29, 20, 14, 21, 35, 36, 37, 38, 39, 40, 41, 42, 43, 44, 45, 46] (by decide +kernel) (by decide +kernel)
set_option maxRecDepth 20000 in
theorem gX7_passHours_X7_fastsOn : GoodIn wsX7_passHours (wsV RX7 59 RX7 yX7_fastsOn wsX7_fastsOn) := goodIn_app (goodIn_of _ (by decide +kernel)) ggX7_passHours_X7_fastsOn
set_option maxRecDepth 20000 in
theorem ggX7_passHours_X7_bowlOn : GoodIn wsX7_passHours wsX7_bowlOn := goodIn_r _ [33, 4, 34, 23, 14, 24, 35, 36, 37, 38, 39, 40, 41, 42, 43, 44, 45, 46] (by decide +kernel) (by decide +kernel)
set_option maxRecDepth 20000 in
theorem gX7_passHours_X7_bowlOn : GoodIn wsX7_passHours (wsV RX7 62 RX7 yX7_bowlOn wsX7_bowlOn) := goodIn_app (goodIn_of _ (by decide +kernel)) ggX7_passHours_X7_bowlOn
theorem dX7_passHours_0 : decode cX7_passHours 0 = .ok (.iconst 0, 1) := by decide +kernel
theorem dX7_passHours_1 : decode cX7_passHours 1 = .ok (.istore_n 2, 1) := by decide +kernel
theorem dX7_passHours_2 : decode cX7_passHours 2 = .ok (.iload_n 2, 1) := by decide +kernel
theorem dX7_passHours_3 : decode cX7_passHours 3 = .ok (.aload_n 0, 1) := by decide +kernel
theorem dX7_passHours_4 : decode cX7_passHours 4 = .ok (.getfield 19, 3) := by decide +kernel
theorem dX7_passHours_7 : decode cX7_passHours 7 = .ok (.if_icmp .ge 33, 3) := by decide +kernel
theorem dX7_passHours_10 : decode cX7_passHours 10 = .ok (.aload_n 0, 1) := by decide +kernel
theorem dX7_passHours_11 : decode cX7_passHours 11 = .ok (.getfield 25, 3) := by decide +kernel
theorem dX7_passHours_14 : decode cX7_passHours 14 = .ok (.iload_n 2, 1) := by decide +kernel
theorem dX7_passHours_15 : decode cX7_passHours 15 = .ok (.aload_n 0, 1) := by decide +kernel
theorem dX7_passHours_16 : decode cX7_passHours 16 = .ok (.iload_n 2, 1) := by decide +kernel
theorem dX7_passHours_17 : decode cX7_passHours 17 = .ok (.iload_n 1, 1) := by decide +kernel
theorem dX7_passHours_18 : decode cX7_passHours 18 = .ok (.invokevirtual 55, 3) := by decide +kernel
theorem dX7_passHours_21 : decode cX7_passHours 21 = .ok (.iastore, 1) := by decide +kernel
theorem dX7_passHours_22 : decode cX7_passHours 22 = .ok (.aload_n 0, 1) := by decide +kernel
theorem dX7_passHours_23 : decode cX7_passHours 23 = .ok (.getfield 34, 3) := by decide +kernel
theorem dX7_passHours_26 : decode cX7_passHours 26 = .ok (.iload_n 2, 1) := by decide +kernel
theorem dX7_passHours_27 : decode cX7_passHours 27 = .ok (.aload_n 0, 1) := by decide +kernel
theorem dX7_passHours_28 : decode cX7_passHours 28 = .ok (.iload_n 2, 1) := by decide +kernel
theorem dX7_passHours_29 : decode cX7_passHours 29 = .ok (.iload_n 1, 1) := by decide +kernel
theorem dX7_passHours_30 : decode cX7_passHours 30 = .ok (.invokevirtual 59, 3) := by decide +kernel
theorem dX7_passHours_33 : decode cX7_passHours 33 = .ok (.iastore, 1) := by decide +kernel
theorem dX7_passHours_34 : decode cX7_passHours 34 = .ok (.iinc 2 1, 3) := by decide +kernel
theorem dX7_passHours_37 : decode cX7_passHours 37 = .ok (.goto (-35), 3) := by decide +kernel
theorem dX7_passHours_40 : decode cX7_passHours 40 = .ok (.iconst 0, 1) := by decide +kernel
theorem dX7_passHours_41 : decode cX7_passHours 41 = .ok (.istore_n 2, 1) := by decide +kernel
theorem dX7_passHours_42 : decode cX7_passHours 42 = .ok (.iload_n 2, 1) := by decide +kernel
theorem dX7_passHours_43 : decode cX7_passHours 43 = .ok (.bipush 16, 2) := by decide +kernel
theorem dX7_passHours_45 : decode cX7_passHours 45 = .ok (.if_icmp .ge 21, 3) := by decide +kernel
theorem dX7_passHours_48 : decode cX7_passHours 48 = .ok (.aload_n 0, 1) := by decide +kernel
theorem dX7_passHours_49 : decode cX7_passHours 49 = .ok (.getfield 15, 3) := by decide +kernel
theorem dX7_passHours_52 : decode cX7_passHours 52 = .ok (.iload_n 2, 1) := by decide +kernel
theorem dX7_passHours_53 : decode cX7_passHours 53 = .ok (.aload_n 0, 1) := by decide +kernel
theorem dX7_passHours_54 : decode cX7_passHours 54 = .ok (.iload_n 2, 1) := by decide +kernel
theorem dX7_passHours_55 : decode cX7_passHours 55 = .ok (.iload_n 1, 1) := by decide +kernel
theorem dX7_passHours_56 : decode cX7_passHours 56 = .ok (.invokevirtual 62, 3) := by decide +kernel
theorem dX7_passHours_59 : decode cX7_passHours 59 = .ok (.iastore, 1) := by decide +kernel
theorem dX7_passHours_60 : decode cX7_passHours 60 = .ok (.iinc 2 1, 3) := by decide +kernel
theorem dX7_passHours_63 : decode cX7_passHours 63 = .ok (.goto (-21), 3) := by decide +kernel
theorem dX7_passHours_66 : decode cX7_passHours 66 = .ok (.aload_n 0, 1) := by decide +kernel
theorem dX7_passHours_67 : decode cX7_passHours 67 = .ok (.dup, 1) := by decide +kernel
theorem dX7_passHours_68 : decode cX7_passHours 68 = .ok (.getfield 9, 3) := by decide +kernel
theorem dX7_passHours_71 : decode cX7_passHours 71 = .ok (.iload_n 1, 1) := by decide +kernel
theorem dX7_passHours_72 : decode cX7_passHours 72 = .ok (.iadd, 1) := by decide +kernel
theorem dX7_passHours_73 : decode cX7_passHours 73 = .ok (.putfield 9, 3) := by decide +kernel
theorem dX7_passHours_76 : decode cX7_passHours 76 = .ok (.return_, 1) := by decide +kernel
theorem dX7_bowlOn_0 : decode cX7_bowlOn 0 = .ok (.iconst 0, 1) := by decide +kernel
theorem dX7_bowlOn_1 : decode cX7_bowlOn 1 = .ok (.aload_n 0, 1) := by decide +kernel
theorem dX7_bowlOn_2 : decode cX7_bowlOn 2 = .ok (.getfield 15, 3) := by decide +kernel
theorem dX7_bowlOn_5 : decode cX7_bowlOn 5 = .ok (.iload_n 1, 1) := by decide +kernel
theorem dX7_bowlOn_6 : decode cX7_bowlOn 6 = .ok (.iaload, 1) := by decide +kernel
theorem dX7_bowlOn_7 : decode cX7_bowlOn 7 = .ok (.iload_n 2, 1) := by decide +kernel
theorem dX7_bowlOn_8 : decode cX7_bowlOn 8 = .ok (.isub, 1) := by decide +kernel
theorem dX7_bowlOn_9 : decode cX7_bowlOn 9 = .ok (.invokestatic 65, 3) := by decide +kernel
theorem dX7_bowlOn_12 : decode cX7_bowlOn 12 = .ok (.ireturn, 1) := by decide +kernel
theorem dX7_fastsOn_0 : decode cX7_fastsOn 0 = .ok (.sipush 999, 3) := by decide +kernel
theorem dX7_fastsOn_3 : decode cX7_fastsOn 3 = .ok (.aload_n 0, 1) := by decide +kernel
theorem dX7_fastsOn_4 : decode cX7_fastsOn 4 = .ok (.getfield 34, 3) := by decide +kernel
theorem dX7_fastsOn_7 : decode cX7_fastsOn 7 = .ok (.iload_n 1, 1) := by decide +kernel
theorem dX7_fastsOn_8 : decode cX7_fastsOn 8 = .ok (.iaload, 1) := by decide +kernel
theorem dX7_fastsOn_9 : decode cX7_fastsOn 9 = .ok (.iload_n 2, 1) := by decide +kernel
theorem dX7_fastsOn_10 : decode cX7_fastsOn 10 = .ok (.iadd, 1) := by decide +kernel
theorem dX7_fastsOn_11 : decode cX7_fastsOn 11 = .ok (.invokestatic 70, 3) := by decide +kernel
theorem dX7_fastsOn_14 : decode cX7_fastsOn 14 = .ok (.ireturn, 1) := by decide +kernel
set_option maxRecDepth 20000 in
theorem ggX7_standsOn_X8_towards : GoodIn wsX7_standsOn wsX8_towards := goodIn_r _ [9, 10, 11, 5, 12, 13, 14, 15] (by decide +kernel) (by decide +kernel)
set_option maxRecDepth 20000 in
theorem gX7_standsOn_X8_towards_n73 : GoodIn wsX7_standsOn (wsX8_towards) := ggX7_standsOn_X8_towards
theorem dX7_standsOn_0 : decode cX7_standsOn 0 = .ok (.aload_n 0, 1) := by decide +kernel
theorem dX7_standsOn_1 : decode cX7_standsOn 1 = .ok (.getfield 25, 3) := by decide +kernel
theorem dX7_standsOn_4 : decode cX7_standsOn 4 = .ok (.iload_n 1, 1) := by decide +kernel
theorem dX7_standsOn_5 : decode cX7_standsOn 5 = .ok (.iaload, 1) := by decide +kernel
theorem dX7_standsOn_6 : decode cX7_standsOn 6 = .ok (.iconst 4, 1) := by decide +kernel
theorem dX7_standsOn_7 : decode cX7_standsOn 7 = .ok (.idiv, 1) := by decide +kernel
theorem dX7_standsOn_8 : decode cX7_standsOn 8 = .ok (.istore_n 3, 1) := by decide +kernel
theorem dX7_standsOn_9 : decode cX7_standsOn 9 = .ok (.iload_n 3, 1) := by decide +kernel
theorem dX7_standsOn_10 : decode cX7_standsOn 10 = .ok (.aload_n 0, 1) := by decide +kernel
theorem dX7_standsOn_11 : decode cX7_standsOn 11 = .ok (.getfield 28, 3) := by decide +kernel
theorem dX7_standsOn_14 : decode cX7_standsOn 14 = .ok (.iload_n 1, 1) := by decide +kernel
theorem dX7_standsOn_15 : decode cX7_standsOn 15 = .ok (.iaload, 1) := by decide +kernel
theorem dX7_standsOn_16 : decode cX7_standsOn 16 = .ok (.iconst 4, 1) := by decide +kernel
theorem dX7_standsOn_17 : decode cX7_standsOn 17 = .ok (.idiv, 1) := by decide +kernel
theorem dX7_standsOn_18 : decode cX7_standsOn 18 = .ok (.iload_n 2, 1) := by decide +kernel
theorem dX7_standsOn_19 : decode cX7_standsOn 19 = .ok (.invokestatic 73, 3) := by decide +kernel
theorem dX7_standsOn_22 : decode cX7_standsOn 22 = .ok (.istore 4, 2) := by decide +kernel
theorem dX7_standsOn_24 : decode cX7_standsOn 24 = .ok (.iload_n 2, 1) := by decide +kernel
theorem dX7_standsOn_25 : decode cX7_standsOn 25 = .ok (.iload 4, 2) := by decide +kernel
theorem dX7_standsOn_27 : decode cX7_standsOn 27 = .ok (.iload_n 3, 1) := by decide +kernel
theorem dX7_standsOn_28 : decode cX7_standsOn 28 = .ok (.isub, 1) := by decide +kernel
theorem dX7_standsOn_29 : decode cX7_standsOn 29 = .ok (.invokestatic 77, 3) := by decide +kernel
theorem dX7_standsOn_32 : decode cX7_standsOn 32 = .ok (.isub, 1) := by decide +kernel
theorem dX7_standsOn_33 : decode cX7_standsOn 33 = .ok (.istore 5, 2) := by decide +kernel
theorem dX7_standsOn_35 : decode cX7_standsOn 35 = .ok (.aload_n 0, 1) := by decide +kernel
theorem dX7_standsOn_36 : decode cX7_standsOn 36 = .ok (.getfield 25, 3) := by decide +kernel
theorem dX7_standsOn_39 : decode cX7_standsOn 39 = .ok (.iload_n 1, 1) := by decide +kernel
theorem dX7_standsOn_40 : decode cX7_standsOn 40 = .ok (.iaload, 1) := by decide +kernel
theorem dX7_standsOn_41 : decode cX7_standsOn 41 = .ok (.iconst 4, 1) := by decide +kernel
theorem dX7_standsOn_42 : decode cX7_standsOn 42 = .ok (.irem, 1) := by decide +kernel
theorem dX7_standsOn_43 : decode cX7_standsOn 43 = .ok (.aload_n 0, 1) := by decide +kernel
theorem dX7_standsOn_44 : decode cX7_standsOn 44 = .ok (.getfield 28, 3) := by decide +kernel
theorem dX7_standsOn_47 : decode cX7_standsOn 47 = .ok (.iload_n 1, 1) := by decide +kernel
theorem dX7_standsOn_48 : decode cX7_standsOn 48 = .ok (.iaload, 1) := by decide +kernel
theorem dX7_standsOn_49 : decode cX7_standsOn 49 = .ok (.iconst 4, 1) := by decide +kernel
theorem dX7_standsOn_50 : decode cX7_standsOn 50 = .ok (.irem, 1) := by decide +kernel
theorem dX7_standsOn_51 : decode cX7_standsOn 51 = .ok (.iload 5, 2) := by decide +kernel
theorem dX7_standsOn_53 : decode cX7_standsOn 53 = .ok (.invokestatic 73, 3) := by decide +kernel
theorem dX7_standsOn_56 : decode cX7_standsOn 56 = .ok (.istore 6, 2) := by decide +kernel
theorem dX7_standsOn_58 : decode cX7_standsOn 58 = .ok (.iload 4, 2) := by decide +kernel
theorem dX7_standsOn_60 : decode cX7_standsOn 60 = .ok (.iconst 4, 1) := by decide +kernel
theorem dX7_standsOn_61 : decode cX7_standsOn 61 = .ok (.imul, 1) := by decide +kernel
theorem dX7_standsOn_62 : decode cX7_standsOn 62 = .ok (.iload 6, 2) := by decide +kernel
theorem dX7_standsOn_64 : decode cX7_standsOn 64 = .ok (.iadd, 1) := by decide +kernel
theorem dX7_standsOn_65 : decode cX7_standsOn 65 = .ok (.ireturn, 1) := by decide +kernel
set_option maxRecDepth 20000 in
theorem ggX7_comes_X8_within : GoodIn wsX7_comes wsX8_within := goodIn_r _ [5] (by decide +kernel) (by decide +kernel)
set_option maxRecDepth 20000 in
theorem gX7_comes_X8_within_n81 : GoodIn wsX7_comes (wsX8_within) := ggX7_comes_X8_within
theorem dX7_comes_0 : decode cX7_comes 0 = .ok (.aload_n 0, 1) := by decide +kernel
theorem dX7_comes_1 : decode cX7_comes 1 = .ok (.getfield 43, 3) := by decide +kernel
theorem dX7_comes_4 : decode cX7_comes 4 = .ok (.iload_n 1, 1) := by decide +kernel
theorem dX7_comes_5 : decode cX7_comes 5 = .ok (.iaload, 1) := by decide +kernel
theorem dX7_comes_6 : decode cX7_comes 6 = .ok (.aload_n 0, 1) := by decide +kernel
theorem dX7_comes_7 : decode cX7_comes 7 = .ok (.getfield 9, 3) := by decide +kernel
theorem dX7_comes_10 : decode cX7_comes 10 = .ok (.isub, 1) := by decide +kernel
theorem dX7_comes_11 : decode cX7_comes 11 = .ok (.iconst 0, 1) := by decide +kernel
theorem dX7_comes_12 : decode cX7_comes 12 = .ok (.bipush 100, 2) := by decide +kernel
theorem dX7_comes_14 : decode cX7_comes 14 = .ok (.invokestatic 81, 3) := by decide +kernel
theorem dX7_comes_17 : decode cX7_comes 17 = .ok (.ireturn, 1) := by decide +kernel
theorem dX7_arrivedSet_0 : decode cX7_arrivedSet 0 = .ok (.iconst 0, 1) := by decide +kernel
theorem dX7_arrivedSet_1 : decode cX7_arrivedSet 1 = .ok (.istore_n 1, 1) := by decide +kernel
theorem dX7_arrivedSet_2 : decode cX7_arrivedSet 2 = .ok (.iconst 0, 1) := by decide +kernel
theorem dX7_arrivedSet_3 : decode cX7_arrivedSet 3 = .ok (.istore_n 2, 1) := by decide +kernel
theorem dX7_arrivedSet_4 : decode cX7_arrivedSet 4 = .ok (.iload_n 2, 1) := by decide +kernel
theorem dX7_arrivedSet_5 : decode cX7_arrivedSet 5 = .ok (.aload_n 0, 1) := by decide +kernel
theorem dX7_arrivedSet_6 : decode cX7_arrivedSet 6 = .ok (.getfield 19, 3) := by decide +kernel
theorem dX7_arrivedSet_9 : decode cX7_arrivedSet 9 = .ok (.if_icmp .ge 30, 3) := by decide +kernel
theorem dX7_arrivedSet_12 : decode cX7_arrivedSet 12 = .ok (.aload_n 0, 1) := by decide +kernel
theorem dX7_arrivedSet_13 : decode cX7_arrivedSet 13 = .ok (.getfield 25, 3) := by decide +kernel
theorem dX7_arrivedSet_16 : decode cX7_arrivedSet 16 = .ok (.iload_n 2, 1) := by decide +kernel
theorem dX7_arrivedSet_17 : decode cX7_arrivedSet 17 = .ok (.iaload, 1) := by decide +kernel
theorem dX7_arrivedSet_18 : decode cX7_arrivedSet 18 = .ok (.aload_n 0, 1) := by decide +kernel
theorem dX7_arrivedSet_19 : decode cX7_arrivedSet 19 = .ok (.getfield 28, 3) := by decide +kernel
theorem dX7_arrivedSet_22 : decode cX7_arrivedSet 22 = .ok (.iload_n 2, 1) := by decide +kernel
theorem dX7_arrivedSet_23 : decode cX7_arrivedSet 23 = .ok (.iaload, 1) := by decide +kernel
theorem dX7_arrivedSet_24 : decode cX7_arrivedSet 24 = .ok (.if_icmp .ne 9, 3) := by decide +kernel
theorem dX7_arrivedSet_27 : decode cX7_arrivedSet 27 = .ok (.iload_n 1, 1) := by decide +kernel
theorem dX7_arrivedSet_28 : decode cX7_arrivedSet 28 = .ok (.iconst 1, 1) := by decide +kernel
theorem dX7_arrivedSet_29 : decode cX7_arrivedSet 29 = .ok (.iload_n 2, 1) := by decide +kernel
theorem dX7_arrivedSet_30 : decode cX7_arrivedSet 30 = .ok (.ishl, 1) := by decide +kernel
theorem dX7_arrivedSet_31 : decode cX7_arrivedSet 31 = .ok (.ior, 1) := by decide +kernel
theorem dX7_arrivedSet_32 : decode cX7_arrivedSet 32 = .ok (.istore_n 1, 1) := by decide +kernel
theorem dX7_arrivedSet_33 : decode cX7_arrivedSet 33 = .ok (.iinc 2 1, 3) := by decide +kernel
theorem dX7_arrivedSet_36 : decode cX7_arrivedSet 36 = .ok (.goto (-32), 3) := by decide +kernel
theorem dX7_arrivedSet_39 : decode cX7_arrivedSet 39 = .ok (.iload_n 1, 1) := by decide +kernel
theorem dX7_arrivedSet_40 : decode cX7_arrivedSet 40 = .ok (.ireturn, 1) := by decide +kernel
