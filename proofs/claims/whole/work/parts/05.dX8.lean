set_option maxRecDepth 20000 in
theorem ggX8_init_X7_init : GoodIn wsX8_init wsX7_init := goodIn_r _ [39, 40, 2, 3, 41, 35, 42, 43, 44, 45, 46, 47, 48, 49, 50, 51, 52, 101, 102, 103, 104, 105, 106, 107, 108, 109, 110, 111, 112] (by decide +kernel) (by decide +kernel)
set_option maxRecDepth 20000 in
theorem gX8_init_X7_init_n9 : GoodIn wsX8_init (wsX7_init) := ggX8_init_X7_init
set_option maxRecDepth 20000 in
theorem ggX8_init_X0_init : GoodIn wsX8_init wsX0_init := goodIn_r _ [54, 55, 2, 3, 56, 35, 57, 58, 59, 60, 125, 126, 127, 128, 129] (by decide +kernel) (by decide +kernel)
set_option maxRecDepth 20000 in
theorem gX8_init_X0_init_n28 : GoodIn wsX8_init (wsX0_init) := ggX8_init_X0_init
set_option maxRecDepth 20000 in
theorem ggX8_init_X4_init : GoodIn wsX8_init wsX4_init := goodIn_r _ [62, 63, 2, 3, 64, 65, 66, 130, 131] (by decide +kernel) (by decide +kernel)
set_option maxRecDepth 20000 in
theorem gX8_init_X4_init_n35 : GoodIn wsX8_init (wsX4_init) := ggX8_init_X4_init
set_option maxRecDepth 20000 in
theorem ggX8_init_X2_init : GoodIn wsX8_init wsX2_init := goodIn_r _ [68, 69, 2, 3, 70, 5, 6, 71, 72, 73, 74, 75, 76, 38, 39, 40, 41, 35, 42, 43, 44, 45, 46, 47, 48, 49, 50, 51, 52, 77, 78, 79, 80, 81, 82, 83, 101, 102, 103, 104, 105, 106, 107, 108, 109, 110, 111, 112, 132, 133, 134, 142, 143, 144, 145] (by decide +kernel) (by decide +kernel)
set_option maxRecDepth 20000 in
theorem gX8_init_X2_init_n42 : GoodIn wsX8_init (wsX2_init) := ggX8_init_X2_init
set_option maxRecDepth 20000 in
theorem ggX8_init_X3_init : GoodIn wsX8_init wsX3_init := goodIn_r _ [85, 86, 2, 3, 87, 88, 89, 90, 135, 136, 137] (by decide +kernel) (by decide +kernel)
set_option maxRecDepth 20000 in
theorem gX8_init_X3_init_n53 : GoodIn wsX8_init (wsX3_init) := ggX8_init_X3_init
set_option maxRecDepth 20000 in
theorem ggX8_init_X1_init : GoodIn wsX8_init wsX1_init := goodIn_r _ [92, 93, 2, 3, 89, 94, 35, 95, 138, 139] (by decide +kernel) (by decide +kernel)
set_option maxRecDepth 20000 in
theorem gX8_init_X1_init_n56 : GoodIn wsX8_init (wsX1_init) := ggX8_init_X1_init
set_option maxRecDepth 20000 in
theorem ggX8_init_X6_init : GoodIn wsX8_init wsX6_init := goodIn_r _ [97, 98, 2, 3, 35, 99, 100, 140, 141] (by decide +kernel) (by decide +kernel)
set_option maxRecDepth 20000 in
theorem gX8_init_X6_init_n63 : GoodIn wsX8_init (wsX6_init) := ggX8_init_X6_init
theorem dX8_init_0 : decode cX8_init 0 = .ok (.aload_n 0, 1) := by decide +kernel
theorem dX8_init_1 : decode cX8_init 1 = .ok (.invokespecial 1, 3) := by decide +kernel
theorem dX8_init_4 : decode cX8_init 4 = .ok (.aload_n 0, 1) := by decide +kernel
theorem dX8_init_5 : decode cX8_init 5 = .ok (.new 7, 3) := by decide +kernel
theorem dX8_init_8 : decode cX8_init 8 = .ok (.dup, 1) := by decide +kernel
theorem dX8_init_9 : decode cX8_init 9 = .ok (.invokespecial 9, 3) := by decide +kernel
theorem dX8_init_12 : decode cX8_init 12 = .ok (.putfield 10, 3) := by decide +kernel
theorem dX8_init_15 : decode cX8_init 15 = .ok (.aload_n 0, 1) := by decide +kernel
theorem dX8_init_16 : decode cX8_init 16 = .ok (.new 7, 3) := by decide +kernel
theorem dX8_init_19 : decode cX8_init 19 = .ok (.dup, 1) := by decide +kernel
theorem dX8_init_20 : decode cX8_init 20 = .ok (.invokespecial 9, 3) := by decide +kernel
theorem dX8_init_23 : decode cX8_init 23 = .ok (.putfield 16, 3) := by decide +kernel
theorem dX8_init_26 : decode cX8_init 26 = .ok (.aload_n 0, 1) := by decide +kernel
theorem dX8_init_27 : decode cX8_init 27 = .ok (.new 7, 3) := by decide +kernel
theorem dX8_init_30 : decode cX8_init 30 = .ok (.dup, 1) := by decide +kernel
theorem dX8_init_31 : decode cX8_init 31 = .ok (.invokespecial 9, 3) := by decide +kernel
theorem dX8_init_34 : decode cX8_init 34 = .ok (.putfield 19, 3) := by decide +kernel
theorem dX8_init_37 : decode cX8_init 37 = .ok (.aload_n 0, 1) := by decide +kernel
theorem dX8_init_38 : decode cX8_init 38 = .ok (.iconst 0, 1) := by decide +kernel
theorem dX8_init_39 : decode cX8_init 39 = .ok (.putfield 22, 3) := by decide +kernel
theorem dX8_init_42 : decode cX8_init 42 = .ok (.aload_n 0, 1) := by decide +kernel
theorem dX8_init_43 : decode cX8_init 43 = .ok (.new 26, 3) := by decide +kernel
theorem dX8_init_46 : decode cX8_init 46 = .ok (.dup, 1) := by decide +kernel
theorem dX8_init_47 : decode cX8_init 47 = .ok (.invokespecial 28, 3) := by decide +kernel
theorem dX8_init_50 : decode cX8_init 50 = .ok (.putfield 29, 3) := by decide +kernel
theorem dX8_init_53 : decode cX8_init 53 = .ok (.aload_n 0, 1) := by decide +kernel
theorem dX8_init_54 : decode cX8_init 54 = .ok (.new 33, 3) := by decide +kernel
theorem dX8_init_57 : decode cX8_init 57 = .ok (.dup, 1) := by decide +kernel
theorem dX8_init_58 : decode cX8_init 58 = .ok (.invokespecial 35, 3) := by decide +kernel
theorem dX8_init_61 : decode cX8_init 61 = .ok (.putfield 36, 3) := by decide +kernel
theorem dX8_init_64 : decode cX8_init 64 = .ok (.aload_n 0, 1) := by decide +kernel
theorem dX8_init_65 : decode cX8_init 65 = .ok (.new 40, 3) := by decide +kernel
theorem dX8_init_68 : decode cX8_init 68 = .ok (.dup, 1) := by decide +kernel
theorem dX8_init_69 : decode cX8_init 69 = .ok (.invokespecial 42, 3) := by decide +kernel
theorem dX8_init_72 : decode cX8_init 72 = .ok (.putfield 43, 3) := by decide +kernel
theorem dX8_init_75 : decode cX8_init 75 = .ok (.aload_n 0, 1) := by decide +kernel
theorem dX8_init_76 : decode cX8_init 76 = .ok (.iconst 4, 1) := by decide +kernel
theorem dX8_init_77 : decode cX8_init 77 = .ok (.anewarray 47, 3) := by decide +kernel
theorem dX8_init_80 : decode cX8_init 80 = .ok (.putfield 49, 3) := by decide +kernel
theorem dX8_init_83 : decode cX8_init 83 = .ok (.iconst 0, 1) := by decide +kernel
theorem dX8_init_84 : decode cX8_init 84 = .ok (.istore_n 1, 1) := by decide +kernel
theorem dX8_init_85 : decode cX8_init 85 = .ok (.iload_n 1, 1) := by decide +kernel
theorem dX8_init_86 : decode cX8_init 86 = .ok (.iconst 4, 1) := by decide +kernel
theorem dX8_init_87 : decode cX8_init 87 = .ok (.if_icmp .ge 22, 3) := by decide +kernel
theorem dX8_init_90 : decode cX8_init 90 = .ok (.aload_n 0, 1) := by decide +kernel
theorem dX8_init_91 : decode cX8_init 91 = .ok (.getfield 49, 3) := by decide +kernel
theorem dX8_init_94 : decode cX8_init 94 = .ok (.iload_n 1, 1) := by decide +kernel
theorem dX8_init_95 : decode cX8_init 95 = .ok (.new 47, 3) := by decide +kernel
theorem dX8_init_98 : decode cX8_init 98 = .ok (.dup, 1) := by decide +kernel
theorem dX8_init_99 : decode cX8_init 99 = .ok (.invokespecial 53, 3) := by decide +kernel
theorem dX8_init_102 : decode cX8_init 102 = .ok (.aastore, 1) := by decide +kernel
theorem dX8_init_103 : decode cX8_init 103 = .ok (.iinc 1 1, 3) := by decide +kernel
theorem dX8_init_106 : decode cX8_init 106 = .ok (.goto (-21), 3) := by decide +kernel
theorem dX8_init_109 : decode cX8_init 109 = .ok (.aload_n 0, 1) := by decide +kernel
theorem dX8_init_110 : decode cX8_init 110 = .ok (.new 54, 3) := by decide +kernel
theorem dX8_init_113 : decode cX8_init 113 = .ok (.dup, 1) := by decide +kernel
theorem dX8_init_114 : decode cX8_init 114 = .ok (.invokespecial 56, 3) := by decide +kernel
theorem dX8_init_117 : decode cX8_init 117 = .ok (.putfield 57, 3) := by decide +kernel
theorem dX8_init_120 : decode cX8_init 120 = .ok (.aload_n 0, 1) := by decide +kernel
theorem dX8_init_121 : decode cX8_init 121 = .ok (.new 61, 3) := by decide +kernel
theorem dX8_init_124 : decode cX8_init 124 = .ok (.dup, 1) := by decide +kernel
theorem dX8_init_125 : decode cX8_init 125 = .ok (.invokespecial 63, 3) := by decide +kernel
theorem dX8_init_128 : decode cX8_init 128 = .ok (.putfield 64, 3) := by decide +kernel
theorem dX8_init_131 : decode cX8_init 131 = .ok (.aload_n 0, 1) := by decide +kernel
theorem dX8_init_132 : decode cX8_init 132 = .ok (.bipush 16, 2) := by decide +kernel
theorem dX8_init_134 : decode cX8_init 134 = .ok (.newarray .int, 2) := by decide +kernel
theorem dX8_init_136 : decode cX8_init 136 = .ok (.putfield 68, 3) := by decide +kernel
theorem dX8_init_139 : decode cX8_init 139 = .ok (.aload_n 0, 1) := by decide +kernel
theorem dX8_init_140 : decode cX8_init 140 = .ok (.bipush 7, 2) := by decide +kernel
theorem dX8_init_142 : decode cX8_init 142 = .ok (.newarray .int, 2) := by decide +kernel
theorem dX8_init_144 : decode cX8_init 144 = .ok (.putfield 72, 3) := by decide +kernel
theorem dX8_init_147 : decode cX8_init 147 = .ok (.return_, 1) := by decide +kernel
set_option maxRecDepth 20000 in
theorem ggX8_bowl_X8_isPlace : GoodIn wsX8_bowl wsX8_isPlace := goodIn_r _ [7, 8, 9, 6, 10] (by decide +kernel) (by decide +kernel)
set_option maxRecDepth 20000 in
theorem gX8_bowl_X8_isPlace : GoodIn wsX8_bowl (va_wsS RX8 75 yX8_isPlace wsX8_isPlace) := goodIn_app (goodIn_of _ (by decide +kernel)) ggX8_bowl_X8_isPlace
set_option maxRecDepth 20000 in
theorem ggX8_bowl_X8_within : GoodIn wsX8_bowl wsX8_within := goodIn_r _ [10] (by decide +kernel) (by decide +kernel)
set_option maxRecDepth 20000 in
theorem gX8_bowl_X8_within : GoodIn wsX8_bowl (va_wsS RX8 79 yX8_within wsX8_within) := goodIn_app (goodIn_of _ (by decide +kernel)) ggX8_bowl_X8_within
set_option maxRecDepth 20000 in
theorem ggX8_bowl_X8_found : GoodIn wsX8_bowl wsX8_found := goodIn_r _ [14, 1, 15, 8, 9, 6, 10, 16, 17, 18, 19, 20, 21, 22, 23, 24, 25, 26, 27] (by decide +kernel) (by decide +kernel)
set_option maxRecDepth 20000 in
theorem gX8_bowl_X8_found : GoodIn wsX8_bowl (wsV RX8 84 RX8 yX8_found wsX8_found) := goodIn_app (goodIn_of _ (by decide +kernel)) ggX8_bowl_X8_found
theorem dX8_bowl_0 : decode cX8_bowl 0 = .ok (.iload_n 1, 1) := by decide +kernel
theorem dX8_bowl_1 : decode cX8_bowl 1 = .ok (.invokestatic 75, 3) := by decide +kernel
theorem dX8_bowl_4 : decode cX8_bowl 4 = .ok (.ifCond .eq 13, 3) := by decide +kernel
theorem dX8_bowl_7 : decode cX8_bowl 7 = .ok (.iload_n 2, 1) := by decide +kernel
theorem dX8_bowl_8 : decode cX8_bowl 8 = .ok (.iconst 0, 1) := by decide +kernel
theorem dX8_bowl_9 : decode cX8_bowl 9 = .ok (.bipush 99, 2) := by decide +kernel
theorem dX8_bowl_11 : decode cX8_bowl 11 = .ok (.invokestatic 79, 3) := by decide +kernel
theorem dX8_bowl_14 : decode cX8_bowl 14 = .ok (.ifCond .ne 10, 3) := by decide +kernel
theorem dX8_bowl_17 : decode cX8_bowl 17 = .ok (.aload_n 0, 1) := by decide +kernel
theorem dX8_bowl_18 : decode cX8_bowl 18 = .ok (.ldc 83, 2) := by decide +kernel
theorem dX8_bowl_20 : decode cX8_bowl 20 = .ok (.invokevirtual 84, 3) := by decide +kernel
theorem dX8_bowl_23 : decode cX8_bowl 23 = .ok (.ireturn, 1) := by decide +kernel
theorem dX8_bowl_24 : decode cX8_bowl 24 = .ok (.aload_n 0, 1) := by decide +kernel
theorem dX8_bowl_25 : decode cX8_bowl 25 = .ok (.getfield 10, 3) := by decide +kernel
theorem dX8_bowl_28 : decode cX8_bowl 28 = .ok (.getfield 88, 3) := by decide +kernel
theorem dX8_bowl_31 : decode cX8_bowl 31 = .ok (.iload_n 1, 1) := by decide +kernel
theorem dX8_bowl_32 : decode cX8_bowl 32 = .ok (.iaload, 1) := by decide +kernel
theorem dX8_bowl_33 : decode cX8_bowl 33 = .ok (.istore_n 3, 1) := by decide +kernel
theorem dX8_bowl_34 : decode cX8_bowl 34 = .ok (.aload_n 0, 1) := by decide +kernel
theorem dX8_bowl_35 : decode cX8_bowl 35 = .ok (.getfield 10, 3) := by decide +kernel
theorem dX8_bowl_38 : decode cX8_bowl 38 = .ok (.getfield 88, 3) := by decide +kernel
theorem dX8_bowl_41 : decode cX8_bowl 41 = .ok (.iload_n 1, 1) := by decide +kernel
theorem dX8_bowl_42 : decode cX8_bowl 42 = .ok (.iload_n 2, 1) := by decide +kernel
theorem dX8_bowl_43 : decode cX8_bowl 43 = .ok (.iastore, 1) := by decide +kernel
theorem dX8_bowl_44 : decode cX8_bowl 44 = .ok (.iload_n 3, 1) := by decide +kernel
theorem dX8_bowl_45 : decode cX8_bowl 45 = .ok (.ireturn, 1) := by decide +kernel
set_option maxRecDepth 20000 in
theorem ggX8_light_X8_isPlace : GoodIn wsX8_light wsX8_isPlace := goodIn_r _ [5, 6, 7, 4, 8] (by decide +kernel) (by decide +kernel)
set_option maxRecDepth 20000 in
theorem gX8_light_X8_isPlace : GoodIn wsX8_light (va_wsS RX8 75 yX8_isPlace wsX8_isPlace) := goodIn_app (goodIn_of _ (by decide +kernel)) ggX8_light_X8_isPlace
set_option maxRecDepth 20000 in
theorem ggX8_light_X8_lightOn : GoodIn wsX8_light wsX8_lightOn := goodIn_r _ [12, 13, 14, 15, 16, 17, 18, 19, 20, 21, 22, 23, 24, 25, 26, 27, 28, 29, 30, 31, 32, 33, 34, 35, 36, 37, 38, 39, 40, 41, 42, 43, 44, 45, 46, 47, 4, 48, 49, 50, 51, 52, 53, 54, 55, 56, 57, 58, 59, 60, 61, 62, 63, 64, 65, 66, 67, 68, 69, 70, 71, 72, 73, 74, 75, 76, 82, 83, 84, 85, 86, 87, 88, 89, 90, 91, 92, 93, 94, 95, 96, 97, 98, 99, 100, 101, 102, 103, 104, 105, 106, 107, 108, 109, 110] (by decide +kernel) (by decide +kernel)
set_option maxRecDepth 20000 in
theorem gX8_light_X8_lightOn : GoodIn wsX8_light (wsV RX8 91 RX8 yX8_lightOn wsX8_lightOn) := goodIn_app (goodIn_of _ (by decide +kernel)) ggX8_light_X8_lightOn
set_option maxRecDepth 20000 in
theorem ggX8_light_X8_found : GoodIn wsX8_light wsX8_found := goodIn_r _ [80, 1, 81, 6, 7, 4, 8, 82, 83, 84, 85, 86, 87, 88, 89, 90, 91, 92, 93] (by decide +kernel) (by decide +kernel)
set_option maxRecDepth 20000 in
theorem gX8_light_X8_found : GoodIn wsX8_light (wsV RX8 84 RX8 yX8_found wsX8_found) := goodIn_app (goodIn_of _ (by decide +kernel)) ggX8_light_X8_found
theorem dX8_light_0 : decode cX8_light 0 = .ok (.iload_n 1, 1) := by decide +kernel
theorem dX8_light_1 : decode cX8_light 1 = .ok (.invokestatic 75, 3) := by decide +kernel
theorem dX8_light_4 : decode cX8_light 4 = .ok (.ifCond .eq 12, 3) := by decide +kernel
theorem dX8_light_7 : decode cX8_light 7 = .ok (.aload_n 0, 1) := by decide +kernel
theorem dX8_light_8 : decode cX8_light 8 = .ok (.iload_n 1, 1) := by decide +kernel
theorem dX8_light_9 : decode cX8_light 9 = .ok (.iconst 0, 1) := by decide +kernel
theorem dX8_light_10 : decode cX8_light 10 = .ok (.invokevirtual 91, 3) := by decide +kernel
theorem dX8_light_13 : decode cX8_light 13 = .ok (.goto 9, 3) := by decide +kernel
theorem dX8_light_16 : decode cX8_light 16 = .ok (.aload_n 0, 1) := by decide +kernel
theorem dX8_light_17 : decode cX8_light 17 = .ok (.ldc 83, 2) := by decide +kernel
theorem dX8_light_19 : decode cX8_light 19 = .ok (.invokevirtual 84, 3) := by decide +kernel
theorem dX8_light_22 : decode cX8_light 22 = .ok (.ireturn, 1) := by decide +kernel
set_option maxRecDepth 20000 in
theorem ggX8_brightest_X8_lightAll : GoodIn wsX8_brightest wsX8_lightAll := goodIn_r _ [6, 7, 8, 1, 9, 10, 11, 12, 13, 14, 15, 16, 17, 18, 19, 20, 21, 22, 23, 24, 25, 26, 27, 28, 29, 30, 31, 32, 33, 34, 35, 36, 37, 38, 39, 40, 41, 5, 42, 43, 44, 45, 46, 47, 48, 49, 50, 51, 52, 53, 54, 55, 56, 57, 58, 59, 60, 61, 62, 63, 64, 65, 66, 67, 68, 69, 70, 71, 72, 73, 74, 75, 76, 77, 78, 79, 80, 81, 82, 83, 84, 85, 86, 87, 88, 89, 90, 91, 92, 93, 94, 95, 96, 97, 98, 99] (by decide +kernel) (by decide +kernel)
set_option maxRecDepth 20000 in
theorem gX8_brightest_X8_lightAll : GoodIn wsX8_brightest (wsV RX8 95 RX8 yX8_lightAll wsX8_lightAll) := goodIn_app (goodIn_of _ (by decide +kernel)) ggX8_brightest_X8_lightAll
theorem dX8_brightest_0 : decode cX8_brightest 0 = .ok (.aload_n 0, 1) := by decide +kernel
theorem dX8_brightest_1 : decode cX8_brightest 1 = .ok (.invokevirtual 95, 3) := by decide +kernel
theorem dX8_brightest_4 : decode cX8_brightest 4 = .ok (.iconst 0, 1) := by decide +kernel
theorem dX8_brightest_5 : decode cX8_brightest 5 = .ok (.istore_n 1, 1) := by decide +kernel
theorem dX8_brightest_6 : decode cX8_brightest 6 = .ok (.iconst 1, 1) := by decide +kernel
theorem dX8_brightest_7 : decode cX8_brightest 7 = .ok (.istore_n 2, 1) := by decide +kernel
theorem dX8_brightest_8 : decode cX8_brightest 8 = .ok (.iload_n 2, 1) := by decide +kernel
theorem dX8_brightest_9 : decode cX8_brightest 9 = .ok (.bipush 16, 2) := by decide +kernel
theorem dX8_brightest_11 : decode cX8_brightest 11 = .ok (.if_icmp .ge 26, 3) := by decide +kernel
theorem dX8_brightest_14 : decode cX8_brightest 14 = .ok (.aload_n 0, 1) := by decide +kernel
theorem dX8_brightest_15 : decode cX8_brightest 15 = .ok (.getfield 68, 3) := by decide +kernel
theorem dX8_brightest_18 : decode cX8_brightest 18 = .ok (.iload_n 2, 1) := by decide +kernel
theorem dX8_brightest_19 : decode cX8_brightest 19 = .ok (.iaload, 1) := by decide +kernel
theorem dX8_brightest_20 : decode cX8_brightest 20 = .ok (.aload_n 0, 1) := by decide +kernel
theorem dX8_brightest_21 : decode cX8_brightest 21 = .ok (.getfield 68, 3) := by decide +kernel
theorem dX8_brightest_24 : decode cX8_brightest 24 = .ok (.iload_n 1, 1) := by decide +kernel
theorem dX8_brightest_25 : decode cX8_brightest 25 = .ok (.iaload, 1) := by decide +kernel
theorem dX8_brightest_26 : decode cX8_brightest 26 = .ok (.if_icmp .le 5, 3) := by decide +kernel
theorem dX8_brightest_29 : decode cX8_brightest 29 = .ok (.iload_n 2, 1) := by decide +kernel
theorem dX8_brightest_30 : decode cX8_brightest 30 = .ok (.istore_n 1, 1) := by decide +kernel
theorem dX8_brightest_31 : decode cX8_brightest 31 = .ok (.iinc 2 1, 3) := by decide +kernel
theorem dX8_brightest_34 : decode cX8_brightest 34 = .ok (.goto (-26), 3) := by decide +kernel
theorem dX8_brightest_37 : decode cX8_brightest 37 = .ok (.iload_n 1, 1) := by decide +kernel
theorem dX8_brightest_38 : decode cX8_brightest 38 = .ok (.ireturn, 1) := by decide +kernel
set_option maxRecDepth 20000 in
theorem ggX8_lit_X8_within : GoodIn wsX8_lit wsX8_within := goodIn_r _ [6] (by decide +kernel) (by decide +kernel)
set_option maxRecDepth 20000 in
theorem gX8_lit_X8_within : GoodIn wsX8_lit (va_wsS RX8 79 yX8_within wsX8_within) := goodIn_app (goodIn_of _ (by decide +kernel)) ggX8_lit_X8_within
set_option maxRecDepth 20000 in
theorem ggX8_lit_X8_found : GoodIn wsX8_lit wsX8_found := goodIn_r _ [10, 1, 11, 3, 4, 5, 6, 80, 81, 82, 83, 84, 85, 86, 87, 88, 89, 90, 91] (by decide +kernel) (by decide +kernel)
set_option maxRecDepth 20000 in
theorem gX8_lit_X8_found : GoodIn wsX8_lit (wsV RX8 84 RX8 yX8_found wsX8_found) := goodIn_app (goodIn_of _ (by decide +kernel)) ggX8_lit_X8_found
set_option maxRecDepth 20000 in
theorem ggX8_lit_X8_lightAll : GoodIn wsX8_lit wsX8_lightAll := goodIn_r _ [15, 16, 17, 2, 18, 19, 20, 21, 22, 23, 24, 25, 26, 27, 28, 29, 30, 31, 32, 33, 34, 35, 36, 37, 38, 39, 40, 41, 42, 43, 44, 45, 46, 47, 48, 49, 50, 5, 51, 52, 53, 54, 55, 56, 57, 58, 59, 60, 61, 62, 63, 64, 65, 66, 67, 68, 69, 70, 71, 72, 73, 74, 75, 76, 77, 78, 79, 80, 81, 82, 83, 84, 85, 86, 87, 88, 89, 90, 91, 92, 93, 94, 95, 96, 97, 98, 99, 100, 101, 102, 103, 104, 105, 106, 107, 108] (by decide +kernel) (by decide +kernel)
set_option maxRecDepth 20000 in
theorem gX8_lit_X8_lightAll : GoodIn wsX8_lit (wsV RX8 95 RX8 yX8_lightAll wsX8_lightAll) := goodIn_app (goodIn_of _ (by decide +kernel)) ggX8_lit_X8_lightAll
theorem dX8_lit_0 : decode cX8_lit 0 = .ok (.iload_n 1, 1) := by decide +kernel
theorem dX8_lit_1 : decode cX8_lit 1 = .ok (.iconst 0, 1) := by decide +kernel
theorem dX8_lit_2 : decode cX8_lit 2 = .ok (.sipush 9999, 3) := by decide +kernel
theorem dX8_lit_5 : decode cX8_lit 5 = .ok (.invokestatic 79, 3) := by decide +kernel
theorem dX8_lit_8 : decode cX8_lit 8 = .ok (.ifCond .ne 10, 3) := by decide +kernel
theorem dX8_lit_11 : decode cX8_lit 11 = .ok (.aload_n 0, 1) := by decide +kernel
theorem dX8_lit_12 : decode cX8_lit 12 = .ok (.ldc 83, 2) := by decide +kernel
theorem dX8_lit_14 : decode cX8_lit 14 = .ok (.invokevirtual 84, 3) := by decide +kernel
theorem dX8_lit_17 : decode cX8_lit 17 = .ok (.ireturn, 1) := by decide +kernel
theorem dX8_lit_18 : decode cX8_lit 18 = .ok (.aload_n 0, 1) := by decide +kernel
theorem dX8_lit_19 : decode cX8_lit 19 = .ok (.invokevirtual 95, 3) := by decide +kernel
theorem dX8_lit_22 : decode cX8_lit 22 = .ok (.iconst 0, 1) := by decide +kernel
theorem dX8_lit_23 : decode cX8_lit 23 = .ok (.istore_n 2, 1) := by decide +kernel
theorem dX8_lit_24 : decode cX8_lit 24 = .ok (.iconst 0, 1) := by decide +kernel
theorem dX8_lit_25 : decode cX8_lit 25 = .ok (.istore_n 3, 1) := by decide +kernel
theorem dX8_lit_26 : decode cX8_lit 26 = .ok (.iload_n 3, 1) := by decide +kernel
theorem dX8_lit_27 : decode cX8_lit 27 = .ok (.bipush 16, 2) := by decide +kernel
theorem dX8_lit_29 : decode cX8_lit 29 = .ok (.if_icmp .ge 25, 3) := by decide +kernel
theorem dX8_lit_32 : decode cX8_lit 32 = .ok (.aload_n 0, 1) := by decide +kernel
theorem dX8_lit_33 : decode cX8_lit 33 = .ok (.getfield 68, 3) := by decide +kernel
theorem dX8_lit_36 : decode cX8_lit 36 = .ok (.iload_n 3, 1) := by decide +kernel
theorem dX8_lit_37 : decode cX8_lit 37 = .ok (.iaload, 1) := by decide +kernel
theorem dX8_lit_38 : decode cX8_lit 38 = .ok (.iload_n 1, 1) := by decide +kernel
theorem dX8_lit_39 : decode cX8_lit 39 = .ok (.if_icmp .lt 9, 3) := by decide +kernel
theorem dX8_lit_42 : decode cX8_lit 42 = .ok (.iload_n 2, 1) := by decide +kernel
theorem dX8_lit_43 : decode cX8_lit 43 = .ok (.iconst 1, 1) := by decide +kernel
theorem dX8_lit_44 : decode cX8_lit 44 = .ok (.iload_n 3, 1) := by decide +kernel
theorem dX8_lit_45 : decode cX8_lit 45 = .ok (.ishl, 1) := by decide +kernel
theorem dX8_lit_46 : decode cX8_lit 46 = .ok (.ior, 1) := by decide +kernel
theorem dX8_lit_47 : decode cX8_lit 47 = .ok (.istore_n 2, 1) := by decide +kernel
theorem dX8_lit_48 : decode cX8_lit 48 = .ok (.iinc 3 1, 3) := by decide +kernel
theorem dX8_lit_51 : decode cX8_lit 51 = .ok (.goto (-25), 3) := by decide +kernel
theorem dX8_lit_54 : decode cX8_lit 54 = .ok (.iload_n 2, 1) := by decide +kernel
theorem dX8_lit_55 : decode cX8_lit 55 = .ok (.ireturn, 1) := by decide +kernel
set_option maxRecDepth 20000 in
theorem ggX8_being_X8_isKind : GoodIn wsX8_being wsX8_isKind := goodIn_r _ [8, 9, 10, 7, 11] (by decide +kernel) (by decide +kernel)
set_option maxRecDepth 20000 in
theorem gX8_being_X8_isKind : GoodIn wsX8_being (va_wsS RX8 98 yX8_isKind wsX8_isKind) := goodIn_app (goodIn_of _ (by decide +kernel)) ggX8_being_X8_isKind
set_option maxRecDepth 20000 in
theorem ggX8_being_X8_isPlace : GoodIn wsX8_being wsX8_isPlace := goodIn_r _ [14, 9, 10, 7, 11] (by decide +kernel) (by decide +kernel)
set_option maxRecDepth 20000 in
theorem gX8_being_X8_isPlace : GoodIn wsX8_being (va_wsS RX8 75 yX8_isPlace wsX8_isPlace) := goodIn_app (goodIn_of _ (by decide +kernel)) ggX8_being_X8_isPlace
set_option maxRecDepth 20000 in
theorem ggX8_being_X8_found : GoodIn wsX8_being wsX8_found := goodIn_r _ [18, 1, 19, 9, 10, 7, 11, 31, 32, 33, 34, 35, 36, 37, 38, 39, 40, 41, 42] (by decide +kernel) (by decide +kernel)
set_option maxRecDepth 20000 in
theorem gX8_being_X8_found : GoodIn wsX8_being (wsV RX8 84 RX8 yX8_found wsX8_found) := goodIn_app (goodIn_of _ (by decide +kernel)) ggX8_being_X8_found
set_option maxRecDepth 20000 in
theorem ggX8_being_X7_addBeing : GoodIn wsX8_being wsX7_addBeing := goodIn_r _ [24, 25, 26, 27, 28, 29, 30, 43, 44, 45, 46, 47, 48, 49, 50, 51, 52, 53, 54] (by decide +kernel) (by decide +kernel)
set_option maxRecDepth 20000 in
theorem gX8_being_X7_addBeing : GoodIn wsX8_being (wsV RX8 106 RX7 yX7_addBeing wsX7_addBeing) := goodIn_app (goodIn_of _ (by decide +kernel)) ggX8_being_X7_addBeing
theorem dX8_being_0 : decode cX8_being 0 = .ok (.iload_n 1, 1) := by decide +kernel
theorem dX8_being_1 : decode cX8_being 1 = .ok (.invokestatic 98, 3) := by decide +kernel
theorem dX8_being_4 : decode cX8_being 4 = .ok (.ifCond .eq 10, 3) := by decide +kernel
theorem dX8_being_7 : decode cX8_being 7 = .ok (.iload_n 2, 1) := by decide +kernel
theorem dX8_being_8 : decode cX8_being 8 = .ok (.invokestatic 75, 3) := by decide +kernel
theorem dX8_being_11 : decode cX8_being 11 = .ok (.ifCond .ne 10, 3) := by decide +kernel
theorem dX8_being_14 : decode cX8_being 14 = .ok (.aload_n 0, 1) := by decide +kernel
theorem dX8_being_15 : decode cX8_being 15 = .ok (.ldc 83, 2) := by decide +kernel
theorem dX8_being_17 : decode cX8_being 17 = .ok (.invokevirtual 84, 3) := by decide +kernel
theorem dX8_being_20 : decode cX8_being 20 = .ok (.ireturn, 1) := by decide +kernel
theorem dX8_being_21 : decode cX8_being 21 = .ok (.aload_n 0, 1) := by decide +kernel
theorem dX8_being_22 : decode cX8_being 22 = .ok (.getfield 10, 3) := by decide +kernel
theorem dX8_being_25 : decode cX8_being 25 = .ok (.getfield 101, 3) := by decide +kernel
theorem dX8_being_28 : decode cX8_being 28 = .ok (.bipush 10, 2) := by decide +kernel
theorem dX8_being_30 : decode cX8_being 30 = .ok (.if_icmp .lt 10, 3) := by decide +kernel
theorem dX8_being_33 : decode cX8_being 33 = .ok (.aload_n 0, 1) := by decide +kernel
theorem dX8_being_34 : decode cX8_being 34 = .ok (.ldc 105, 2) := by decide +kernel
theorem dX8_being_36 : decode cX8_being 36 = .ok (.invokevirtual 84, 3) := by decide +kernel
theorem dX8_being_39 : decode cX8_being 39 = .ok (.ireturn, 1) := by decide +kernel
theorem dX8_being_40 : decode cX8_being 40 = .ok (.aload_n 0, 1) := by decide +kernel
theorem dX8_being_41 : decode cX8_being 41 = .ok (.getfield 10, 3) := by decide +kernel
theorem dX8_being_44 : decode cX8_being 44 = .ok (.iload_n 1, 1) := by decide +kernel
theorem dX8_being_45 : decode cX8_being 45 = .ok (.iload_n 2, 1) := by decide +kernel
theorem dX8_being_46 : decode cX8_being 46 = .ok (.invokevirtual 106, 3) := by decide +kernel
theorem dX8_being_49 : decode cX8_being 49 = .ok (.ireturn, 1) := by decide +kernel
set_option maxRecDepth 20000 in
theorem ggX8_of_X7_hasBeing : GoodIn wsX8_of wsX7_hasBeing := goodIn_r _ [12, 13, 95, 96, 97, 98, 99, 100, 101, 102, 103, 104, 105, 106] (by decide +kernel) (by decide +kernel)
set_option maxRecDepth 20000 in
theorem gX8_of_X7_hasBeing : GoodIn wsX8_of (wsV RX8 109 RX7 yX7_hasBeing wsX7_hasBeing) := goodIn_app (goodIn_of _ (by decide +kernel)) ggX8_of_X7_hasBeing
set_option maxRecDepth 20000 in
theorem ggX8_of_X8_found : GoodIn wsX8_of wsX8_found := goodIn_r _ [18, 2, 19, 20, 21, 17, 22, 83, 84, 85, 86, 87, 88, 89, 90, 91, 92, 93, 94] (by decide +kernel) (by decide +kernel)
set_option maxRecDepth 20000 in
theorem gX8_of_X8_found : GoodIn wsX8_of (wsV RX8 84 RX8 yX8_found wsX8_found) := goodIn_app (goodIn_of _ (by decide +kernel)) ggX8_of_X8_found
set_option maxRecDepth 20000 in
theorem ggX8_of_X8_shinesNow : GoodIn wsX8_of wsX8_shinesNow := goodIn_r _ [26, 27, 1, 28, 29, 30, 31, 32, 33, 34, 35, 36, 37, 38, 39, 40, 41, 42, 43, 44, 11, 45, 46, 47, 48, 49, 50, 51, 52, 53, 54, 55, 56, 57, 58, 59, 60, 17, 61, 62, 63, 64, 65, 66, 67, 68, 69, 70, 71, 72, 73, 74, 75, 76, 77, 78, 83, 84, 85, 86, 87, 88, 89, 90, 91, 92, 93, 94, 107, 108, 109, 110, 111, 95, 96, 97, 98, 99, 100, 101, 102, 103, 104, 105, 106] (by decide +kernel) (by decide +kernel)
set_option maxRecDepth 20000 in
theorem gX8_of_X8_shinesNow : GoodIn wsX8_of (wsV RX8 127 RX8 yX8_shinesNow wsX8_shinesNow) := goodIn_app (goodIn_of _ (by decide +kernel)) ggX8_of_X8_shinesNow
set_option maxRecDepth 20000 in
theorem ggX8_of_X8_stepsBetween : GoodIn wsX8_of wsX8_stepsBetween := goodIn_r _ [81, 82, 58, 49, 59] (by decide +kernel) (by decide +kernel)
set_option maxRecDepth 20000 in
theorem gX8_of_X8_stepsBetween : GoodIn wsX8_of (va_wsS RX8 130 yX8_stepsBetween wsX8_stepsBetween) := goodIn_app (goodIn_of _ (by decide +kernel)) ggX8_of_X8_stepsBetween
theorem dX8_of_0 : decode cX8_of 0 = .ok (.aload_n 0, 1) := by decide +kernel
theorem dX8_of_1 : decode cX8_of 1 = .ok (.getfield 10, 3) := by decide +kernel
theorem dX8_of_4 : decode cX8_of 4 = .ok (.iload_n 1, 1) := by decide +kernel
theorem dX8_of_5 : decode cX8_of 5 = .ok (.invokevirtual 109, 3) := by decide +kernel
theorem dX8_of_8 : decode cX8_of 8 = .ok (.ifCond .ne 10, 3) := by decide +kernel
theorem dX8_of_11 : decode cX8_of 11 = .ok (.aload_n 0, 1) := by decide +kernel
theorem dX8_of_12 : decode cX8_of 12 = .ok (.ldc 83, 2) := by decide +kernel
theorem dX8_of_14 : decode cX8_of 14 = .ok (.invokevirtual 84, 3) := by decide +kernel
theorem dX8_of_17 : decode cX8_of 17 = .ok (.ireturn, 1) := by decide +kernel
theorem dX8_of_18 : decode cX8_of 18 = .ok (.iload_n 2, 1) := by decide +kernel
theorem dX8_of_19 : decode cX8_of 19 = .ok (.tableswitch 119 0 6 #[41, 51, 61, 71, 81, 91, 97], 41) := by decide +kernel
theorem dX8_of_60 : decode cX8_of 60 = .ok (.aload_n 0, 1) := by decide +kernel
theorem dX8_of_61 : decode cX8_of 61 = .ok (.getfield 10, 3) := by decide +kernel
theorem dX8_of_64 : decode cX8_of 64 = .ok (.getfield 112, 3) := by decide +kernel
theorem dX8_of_67 : decode cX8_of 67 = .ok (.iload_n 1, 1) := by decide +kernel
theorem dX8_of_68 : decode cX8_of 68 = .ok (.iaload, 1) := by decide +kernel
theorem dX8_of_69 : decode cX8_of 69 = .ok (.ireturn, 1) := by decide +kernel
theorem dX8_of_70 : decode cX8_of 70 = .ok (.aload_n 0, 1) := by decide +kernel
theorem dX8_of_71 : decode cX8_of 71 = .ok (.getfield 10, 3) := by decide +kernel
theorem dX8_of_74 : decode cX8_of 74 = .ok (.getfield 115, 3) := by decide +kernel
theorem dX8_of_77 : decode cX8_of 77 = .ok (.iload_n 1, 1) := by decide +kernel
theorem dX8_of_78 : decode cX8_of 78 = .ok (.iaload, 1) := by decide +kernel
theorem dX8_of_79 : decode cX8_of 79 = .ok (.ireturn, 1) := by decide +kernel
theorem dX8_of_80 : decode cX8_of 80 = .ok (.aload_n 0, 1) := by decide +kernel
theorem dX8_of_81 : decode cX8_of 81 = .ok (.getfield 10, 3) := by decide +kernel
theorem dX8_of_84 : decode cX8_of 84 = .ok (.getfield 118, 3) := by decide +kernel
theorem dX8_of_87 : decode cX8_of 87 = .ok (.iload_n 1, 1) := by decide +kernel
theorem dX8_of_88 : decode cX8_of 88 = .ok (.iaload, 1) := by decide +kernel
theorem dX8_of_89 : decode cX8_of 89 = .ok (.ireturn, 1) := by decide +kernel
theorem dX8_of_90 : decode cX8_of 90 = .ok (.aload_n 0, 1) := by decide +kernel
theorem dX8_of_91 : decode cX8_of 91 = .ok (.getfield 10, 3) := by decide +kernel
theorem dX8_of_94 : decode cX8_of 94 = .ok (.getfield 121, 3) := by decide +kernel
theorem dX8_of_97 : decode cX8_of 97 = .ok (.iload_n 1, 1) := by decide +kernel
theorem dX8_of_98 : decode cX8_of 98 = .ok (.iaload, 1) := by decide +kernel
theorem dX8_of_99 : decode cX8_of 99 = .ok (.ireturn, 1) := by decide +kernel
theorem dX8_of_100 : decode cX8_of 100 = .ok (.aload_n 0, 1) := by decide +kernel
theorem dX8_of_101 : decode cX8_of 101 = .ok (.getfield 10, 3) := by decide +kernel
theorem dX8_of_104 : decode cX8_of 104 = .ok (.getfield 124, 3) := by decide +kernel
theorem dX8_of_107 : decode cX8_of 107 = .ok (.iload_n 1, 1) := by decide +kernel
theorem dX8_of_108 : decode cX8_of 108 = .ok (.iaload, 1) := by decide +kernel
theorem dX8_of_109 : decode cX8_of 109 = .ok (.ireturn, 1) := by decide +kernel
theorem dX8_of_110 : decode cX8_of 110 = .ok (.aload_n 0, 1) := by decide +kernel
theorem dX8_of_111 : decode cX8_of 111 = .ok (.iload_n 1, 1) := by decide +kernel
theorem dX8_of_112 : decode cX8_of 112 = .ok (.invokevirtual 127, 3) := by decide +kernel
theorem dX8_of_115 : decode cX8_of 115 = .ok (.ireturn, 1) := by decide +kernel
theorem dX8_of_116 : decode cX8_of 116 = .ok (.aload_n 0, 1) := by decide +kernel
theorem dX8_of_117 : decode cX8_of 117 = .ok (.getfield 10, 3) := by decide +kernel
theorem dX8_of_120 : decode cX8_of 120 = .ok (.getfield 115, 3) := by decide +kernel
theorem dX8_of_123 : decode cX8_of 123 = .ok (.iload_n 1, 1) := by decide +kernel
theorem dX8_of_124 : decode cX8_of 124 = .ok (.iaload, 1) := by decide +kernel
theorem dX8_of_125 : decode cX8_of 125 = .ok (.aload_n 0, 1) := by decide +kernel
theorem dX8_of_126 : decode cX8_of 126 = .ok (.getfield 10, 3) := by decide +kernel
theorem dX8_of_129 : decode cX8_of 129 = .ok (.getfield 118, 3) := by decide +kernel
theorem dX8_of_132 : decode cX8_of 132 = .ok (.iload_n 1, 1) := by decide +kernel
theorem dX8_of_133 : decode cX8_of 133 = .ok (.iaload, 1) := by decide +kernel
theorem dX8_of_134 : decode cX8_of 134 = .ok (.invokestatic 130, 3) := by decide +kernel
theorem dX8_of_137 : decode cX8_of 137 = .ok (.ireturn, 1) := by decide +kernel
theorem dX8_of_138 : decode cX8_of 138 = .ok (.aload_n 0, 1) := by decide +kernel
theorem dX8_of_139 : decode cX8_of 139 = .ok (.ldc 83, 2) := by decide +kernel
theorem dX8_of_141 : decode cX8_of 141 = .ok (.invokevirtual 84, 3) := by decide +kernel
theorem dX8_of_144 : decode cX8_of 144 = .ok (.ireturn, 1) := by decide +kernel
set_option maxRecDepth 20000 in
theorem ggX8_set_X7_hasBeing : GoodIn wsX8_set wsX7_hasBeing := goodIn_r _ [7, 8, 42, 43, 44, 45, 46, 47, 48, 49, 50, 51, 52, 53] (by decide +kernel) (by decide +kernel)
set_option maxRecDepth 20000 in
theorem gX8_set_X7_hasBeing : GoodIn wsX8_set (wsV RX8 109 RX7 yX7_hasBeing wsX7_hasBeing) := goodIn_app (goodIn_of _ (by decide +kernel)) ggX8_set_X7_hasBeing
set_option maxRecDepth 20000 in
theorem ggX8_set_X8_within : GoodIn wsX8_set wsX8_within := goodIn_r _ [12] (by decide +kernel) (by decide +kernel)
set_option maxRecDepth 20000 in
theorem gX8_set_X8_within : GoodIn wsX8_set (va_wsS RX8 79 yX8_within wsX8_within) := goodIn_app (goodIn_of _ (by decide +kernel)) ggX8_set_X8_within
set_option maxRecDepth 20000 in
theorem ggX8_set_X8_mostOf : GoodIn wsX8_set wsX8_mostOf := goodIn_r _ [16] (by decide +kernel) (by decide +kernel)
set_option maxRecDepth 20000 in
theorem gX8_set_X8_mostOf : GoodIn wsX8_set (wsV RX8 133 RX8 yX8_mostOf wsX8_mostOf) := goodIn_app (goodIn_of _ (by decide +kernel)) ggX8_set_X8_mostOf
set_option maxRecDepth 20000 in
theorem ggX8_set_X8_found : GoodIn wsX8_set wsX8_found := goodIn_r _ [20, 2, 21, 9, 10, 11, 12, 30, 31, 32, 33, 34, 35, 36, 37, 38, 39, 40, 41] (by decide +kernel) (by decide +kernel)
set_option maxRecDepth 20000 in
theorem gX8_set_X8_found : GoodIn wsX8_set (wsV RX8 84 RX8 yX8_found wsX8_found) := goodIn_app (goodIn_of _ (by decide +kernel)) ggX8_set_X8_found
set_option maxRecDepth 20000 in
theorem ggX8_set_X8_rowOf : GoodIn wsX8_set wsX8_rowOf := goodIn_r _ [25, 1, 26, 27, 28, 29, 30, 31, 32, 33, 34, 35, 36, 37, 38, 39, 40, 41, 42, 43, 44, 45, 46, 47, 48, 49, 50, 51, 52, 53] (by decide +kernel) (by decide +kernel)
set_option maxRecDepth 20000 in
theorem gX8_set_X8_rowOf : GoodIn wsX8_set (wsV RX8 136 RX8 yX8_rowOf wsX8_rowOf) := goodIn_app (goodIn_of _ (by decide +kernel)) ggX8_set_X8_rowOf
theorem dX8_set_0 : decode cX8_set 0 = .ok (.aload_n 0, 1) := by decide +kernel
theorem dX8_set_1 : decode cX8_set 1 = .ok (.getfield 10, 3) := by decide +kernel
theorem dX8_set_4 : decode cX8_set 4 = .ok (.iload_n 1, 1) := by decide +kernel
theorem dX8_set_5 : decode cX8_set 5 = .ok (.invokevirtual 109, 3) := by decide +kernel
theorem dX8_set_8 : decode cX8_set 8 = .ok (.ifCond .eq 25, 3) := by decide +kernel
theorem dX8_set_11 : decode cX8_set 11 = .ok (.iload_n 2, 1) := by decide +kernel
theorem dX8_set_12 : decode cX8_set 12 = .ok (.iconst 1, 1) := by decide +kernel
theorem dX8_set_13 : decode cX8_set 13 = .ok (.iconst 4, 1) := by decide +kernel
theorem dX8_set_14 : decode cX8_set 14 = .ok (.invokestatic 79, 3) := by decide +kernel
theorem dX8_set_17 : decode cX8_set 17 = .ok (.ifCond .eq 16, 3) := by decide +kernel
theorem dX8_set_20 : decode cX8_set 20 = .ok (.iload_n 3, 1) := by decide +kernel
theorem dX8_set_21 : decode cX8_set 21 = .ok (.iconst 0, 1) := by decide +kernel
theorem dX8_set_22 : decode cX8_set 22 = .ok (.aload_n 0, 1) := by decide +kernel
theorem dX8_set_23 : decode cX8_set 23 = .ok (.iload_n 2, 1) := by decide +kernel
theorem dX8_set_24 : decode cX8_set 24 = .ok (.invokevirtual 133, 3) := by decide +kernel
theorem dX8_set_27 : decode cX8_set 27 = .ok (.invokestatic 79, 3) := by decide +kernel
theorem dX8_set_30 : decode cX8_set 30 = .ok (.ifCond .ne 10, 3) := by decide +kernel
theorem dX8_set_33 : decode cX8_set 33 = .ok (.aload_n 0, 1) := by decide +kernel
theorem dX8_set_34 : decode cX8_set 34 = .ok (.ldc 83, 2) := by decide +kernel
theorem dX8_set_36 : decode cX8_set 36 = .ok (.invokevirtual 84, 3) := by decide +kernel
theorem dX8_set_39 : decode cX8_set 39 = .ok (.ireturn, 1) := by decide +kernel
theorem dX8_set_40 : decode cX8_set 40 = .ok (.aload_n 0, 1) := by decide +kernel
theorem dX8_set_41 : decode cX8_set 41 = .ok (.iload_n 2, 1) := by decide +kernel
theorem dX8_set_42 : decode cX8_set 42 = .ok (.invokevirtual 136, 3) := by decide +kernel
theorem dX8_set_45 : decode cX8_set 45 = .ok (.astore 4, 2) := by decide +kernel
theorem dX8_set_47 : decode cX8_set 47 = .ok (.aload 4, 2) := by decide +kernel
theorem dX8_set_49 : decode cX8_set 49 = .ok (.iload_n 1, 1) := by decide +kernel
theorem dX8_set_50 : decode cX8_set 50 = .ok (.iaload, 1) := by decide +kernel
theorem dX8_set_51 : decode cX8_set 51 = .ok (.istore 5, 2) := by decide +kernel
theorem dX8_set_53 : decode cX8_set 53 = .ok (.aload 4, 2) := by decide +kernel
theorem dX8_set_55 : decode cX8_set 55 = .ok (.iload_n 1, 1) := by decide +kernel
theorem dX8_set_56 : decode cX8_set 56 = .ok (.iload_n 3, 1) := by decide +kernel
theorem dX8_set_57 : decode cX8_set 57 = .ok (.iastore, 1) := by decide +kernel
theorem dX8_set_58 : decode cX8_set 58 = .ok (.iload 5, 2) := by decide +kernel
theorem dX8_set_60 : decode cX8_set 60 = .ok (.ireturn, 1) := by decide +kernel
set_option maxRecDepth 20000 in
theorem ggX8_turn_X7_hasBeing : GoodIn wsX8_turn wsX7_hasBeing := goodIn_r _ [8, 9, 34, 35, 36, 37, 38, 39, 40, 41, 42, 43, 44, 45] (by decide +kernel) (by decide +kernel)
set_option maxRecDepth 20000 in
theorem gX8_turn_X7_hasBeing : GoodIn wsX8_turn (wsV RX8 109 RX7 yX7_hasBeing wsX7_hasBeing) := goodIn_app (goodIn_of _ (by decide +kernel)) ggX8_turn_X7_hasBeing
set_option maxRecDepth 20000 in
theorem ggX8_turn_X8_isKind : GoodIn wsX8_turn wsX8_isKind := goodIn_r _ [13, 14, 15, 12, 16] (by decide +kernel) (by decide +kernel)
set_option maxRecDepth 20000 in
theorem gX8_turn_X8_isKind : GoodIn wsX8_turn (va_wsS RX8 98 yX8_isKind wsX8_isKind) := goodIn_app (goodIn_of _ (by decide +kernel)) ggX8_turn_X8_isKind
set_option maxRecDepth 20000 in
theorem ggX8_turn_X8_found : GoodIn wsX8_turn wsX8_found := goodIn_r _ [20, 2, 21, 14, 15, 12, 16, 22, 23, 24, 25, 26, 27, 28, 29, 30, 31, 32, 33] (by decide +kernel) (by decide +kernel)
set_option maxRecDepth 20000 in
theorem gX8_turn_X8_found : GoodIn wsX8_turn (wsV RX8 84 RX8 yX8_found wsX8_found) := goodIn_app (goodIn_of _ (by decide +kernel)) ggX8_turn_X8_found
theorem dX8_turn_0 : decode cX8_turn 0 = .ok (.aload_n 0, 1) := by decide +kernel
theorem dX8_turn_1 : decode cX8_turn 1 = .ok (.getfield 10, 3) := by decide +kernel
theorem dX8_turn_4 : decode cX8_turn 4 = .ok (.iload_n 1, 1) := by decide +kernel
theorem dX8_turn_5 : decode cX8_turn 5 = .ok (.invokevirtual 109, 3) := by decide +kernel
theorem dX8_turn_8 : decode cX8_turn 8 = .ok (.ifCond .eq 10, 3) := by decide +kernel
theorem dX8_turn_11 : decode cX8_turn 11 = .ok (.iload_n 2, 1) := by decide +kernel
theorem dX8_turn_12 : decode cX8_turn 12 = .ok (.invokestatic 98, 3) := by decide +kernel
theorem dX8_turn_15 : decode cX8_turn 15 = .ok (.ifCond .ne 10, 3) := by decide +kernel
theorem dX8_turn_18 : decode cX8_turn 18 = .ok (.aload_n 0, 1) := by decide +kernel
theorem dX8_turn_19 : decode cX8_turn 19 = .ok (.ldc 83, 2) := by decide +kernel
theorem dX8_turn_21 : decode cX8_turn 21 = .ok (.invokevirtual 84, 3) := by decide +kernel
theorem dX8_turn_24 : decode cX8_turn 24 = .ok (.ireturn, 1) := by decide +kernel
theorem dX8_turn_25 : decode cX8_turn 25 = .ok (.aload_n 0, 1) := by decide +kernel
theorem dX8_turn_26 : decode cX8_turn 26 = .ok (.getfield 10, 3) := by decide +kernel
theorem dX8_turn_29 : decode cX8_turn 29 = .ok (.getfield 112, 3) := by decide +kernel
theorem dX8_turn_32 : decode cX8_turn 32 = .ok (.iload_n 1, 1) := by decide +kernel
theorem dX8_turn_33 : decode cX8_turn 33 = .ok (.iaload, 1) := by decide +kernel
theorem dX8_turn_34 : decode cX8_turn 34 = .ok (.istore_n 3, 1) := by decide +kernel
theorem dX8_turn_35 : decode cX8_turn 35 = .ok (.aload_n 0, 1) := by decide +kernel
theorem dX8_turn_36 : decode cX8_turn 36 = .ok (.getfield 10, 3) := by decide +kernel
theorem dX8_turn_39 : decode cX8_turn 39 = .ok (.getfield 112, 3) := by decide +kernel
theorem dX8_turn_42 : decode cX8_turn 42 = .ok (.iload_n 1, 1) := by decide +kernel
theorem dX8_turn_43 : decode cX8_turn 43 = .ok (.iload_n 2, 1) := by decide +kernel
theorem dX8_turn_44 : decode cX8_turn 44 = .ok (.iastore, 1) := by decide +kernel
theorem dX8_turn_45 : decode cX8_turn 45 = .ok (.iload_n 3, 1) := by decide +kernel
theorem dX8_turn_46 : decode cX8_turn 46 = .ok (.ireturn, 1) := by decide +kernel
set_option maxRecDepth 20000 in
theorem ggX8_as_X7_hasBeing : GoodIn wsX8_as wsX7_hasBeing := goodIn_r _ [10, 11, 40, 41, 42, 43, 44, 45, 46, 47, 48, 49, 50, 51] (by decide +kernel) (by decide +kernel)
set_option maxRecDepth 20000 in
theorem gX8_as_X7_hasBeing : GoodIn wsX8_as (wsV RX8 109 RX7 yX7_hasBeing wsX7_hasBeing) := goodIn_app (goodIn_of _ (by decide +kernel)) ggX8_as_X7_hasBeing
set_option maxRecDepth 20000 in
theorem ggX8_as_X8_isKind : GoodIn wsX8_as wsX8_isKind := goodIn_r _ [15, 16, 17, 14, 18] (by decide +kernel) (by decide +kernel)
set_option maxRecDepth 20000 in
theorem gX8_as_X8_isKind : GoodIn wsX8_as (va_wsS RX8 98 yX8_isKind wsX8_isKind) := goodIn_app (goodIn_of _ (by decide +kernel)) ggX8_as_X8_isKind
set_option maxRecDepth 20000 in
theorem ggX8_as_X8_found : GoodIn wsX8_as wsX8_found := goodIn_r _ [22, 2, 23, 16, 17, 14, 18, 28, 29, 30, 31, 32, 33, 34, 35, 36, 37, 38, 39] (by decide +kernel) (by decide +kernel)
set_option maxRecDepth 20000 in
theorem gX8_as_X8_found : GoodIn wsX8_as (wsV RX8 84 RX8 yX8_found wsX8_found) := goodIn_app (goodIn_of _ (by decide +kernel)) ggX8_as_X8_found
set_option maxRecDepth 20000 in
theorem ggX8_as_X8_isUnder : GoodIn wsX8_as wsX8_isUnder := goodIn_r _ [26, 27] (by decide +kernel) (by decide +kernel)
set_option maxRecDepth 20000 in
theorem gX8_as_X8_isUnder : GoodIn wsX8_as (va_wsS RX8 140 yX8_isUnder wsX8_isUnder) := goodIn_app (goodIn_of _ (by decide +kernel)) ggX8_as_X8_isUnder
theorem dX8_as_0 : decode cX8_as 0 = .ok (.aload_n 0, 1) := by decide +kernel
theorem dX8_as_1 : decode cX8_as 1 = .ok (.getfield 10, 3) := by decide +kernel
theorem dX8_as_4 : decode cX8_as 4 = .ok (.iload_n 1, 1) := by decide +kernel
theorem dX8_as_5 : decode cX8_as 5 = .ok (.invokevirtual 109, 3) := by decide +kernel
theorem dX8_as_8 : decode cX8_as 8 = .ok (.ifCond .eq 10, 3) := by decide +kernel
theorem dX8_as_11 : decode cX8_as 11 = .ok (.iload_n 2, 1) := by decide +kernel
theorem dX8_as_12 : decode cX8_as 12 = .ok (.invokestatic 98, 3) := by decide +kernel
theorem dX8_as_15 : decode cX8_as 15 = .ok (.ifCond .ne 10, 3) := by decide +kernel
theorem dX8_as_18 : decode cX8_as 18 = .ok (.aload_n 0, 1) := by decide +kernel
theorem dX8_as_19 : decode cX8_as 19 = .ok (.ldc 83, 2) := by decide +kernel
theorem dX8_as_21 : decode cX8_as 21 = .ok (.invokevirtual 84, 3) := by decide +kernel
theorem dX8_as_24 : decode cX8_as 24 = .ok (.ireturn, 1) := by decide +kernel
theorem dX8_as_25 : decode cX8_as 25 = .ok (.aload_n 0, 1) := by decide +kernel
theorem dX8_as_26 : decode cX8_as 26 = .ok (.getfield 10, 3) := by decide +kernel
theorem dX8_as_29 : decode cX8_as 29 = .ok (.getfield 112, 3) := by decide +kernel
theorem dX8_as_32 : decode cX8_as 32 = .ok (.iload_n 1, 1) := by decide +kernel
theorem dX8_as_33 : decode cX8_as 33 = .ok (.iaload, 1) := by decide +kernel
theorem dX8_as_34 : decode cX8_as 34 = .ok (.iload_n 2, 1) := by decide +kernel
theorem dX8_as_35 : decode cX8_as 35 = .ok (.invokestatic 140, 3) := by decide +kernel
theorem dX8_as_38 : decode cX8_as 38 = .ok (.ifCond .ne 10, 3) := by decide +kernel
theorem dX8_as_41 : decode cX8_as 41 = .ok (.aload_n 0, 1) := by decide +kernel
theorem dX8_as_42 : decode cX8_as 42 = .ok (.ldc 144, 2) := by decide +kernel
theorem dX8_as_44 : decode cX8_as 44 = .ok (.invokevirtual 84, 3) := by decide +kernel
theorem dX8_as_47 : decode cX8_as 47 = .ok (.ireturn, 1) := by decide +kernel
theorem dX8_as_48 : decode cX8_as 48 = .ok (.aload_n 0, 1) := by decide +kernel
theorem dX8_as_49 : decode cX8_as 49 = .ok (.getfield 10, 3) := by decide +kernel
theorem dX8_as_52 : decode cX8_as 52 = .ok (.getfield 121, 3) := by decide +kernel
theorem dX8_as_55 : decode cX8_as 55 = .ok (.iload_n 1, 1) := by decide +kernel
theorem dX8_as_56 : decode cX8_as 56 = .ok (.iaload, 1) := by decide +kernel
theorem dX8_as_57 : decode cX8_as 57 = .ok (.ireturn, 1) := by decide +kernel
set_option maxRecDepth 20000 in
theorem ggX8_eat_X7_hasBeing : GoodIn wsX8_eat wsX7_hasBeing := goodIn_r _ [7, 8, 91, 92, 93, 94, 95, 96, 97, 98, 99, 100, 101, 102] (by decide +kernel) (by decide +kernel)
set_option maxRecDepth 20000 in
theorem gX8_eat_X7_hasBeing : GoodIn wsX8_eat (wsV RX8 109 RX7 yX7_hasBeing wsX7_hasBeing) := goodIn_app (goodIn_of _ (by decide +kernel)) ggX8_eat_X7_hasBeing
set_option maxRecDepth 20000 in
theorem ggX8_eat_X8_within : GoodIn wsX8_eat wsX8_within := goodIn_r _ [12] (by decide +kernel) (by decide +kernel)
set_option maxRecDepth 20000 in
theorem gX8_eat_X8_within : GoodIn wsX8_eat (va_wsS RX8 79 yX8_within wsX8_within) := goodIn_app (goodIn_of _ (by decide +kernel)) ggX8_eat_X8_within
set_option maxRecDepth 20000 in
theorem ggX8_eat_X8_found : GoodIn wsX8_eat wsX8_found := goodIn_r _ [16, 2, 17, 9, 10, 11, 12, 79, 80, 81, 82, 83, 84, 85, 86, 87, 88, 89, 90] (by decide +kernel) (by decide +kernel)
set_option maxRecDepth 20000 in
theorem gX8_eat_X8_found : GoodIn wsX8_eat (wsV RX8 84 RX8 yX8_found wsX8_found) := goodIn_app (goodIn_of _ (by decide +kernel)) ggX8_eat_X8_found
set_option maxRecDepth 20000 in
theorem ggX8_eat_X7_feedBeing : GoodIn wsX8_eat wsX7_feedBeing := goodIn_r _ [21, 22, 23, 91, 92, 93, 94, 95, 96, 97, 98, 99, 100, 101, 102] (by decide +kernel) (by decide +kernel)
set_option maxRecDepth 20000 in
theorem gX8_eat_X7_feedBeing : GoodIn wsX8_eat (wsV RX8 145 RX7 yX7_feedBeing wsX7_feedBeing) := goodIn_app (goodIn_of _ (by decide +kernel)) ggX8_eat_X7_feedBeing
set_option maxRecDepth 20000 in
theorem ggX8_eat_X8_shinesNow : GoodIn wsX8_eat wsX8_shinesNow := goodIn_r _ [27, 28, 1, 29, 30, 31, 32, 33, 34, 35, 36, 37, 38, 39, 40, 41, 42, 43, 44, 45, 6, 46, 47, 48, 49, 50, 51, 52, 53, 54, 55, 56, 57, 58, 59, 60, 61, 11, 62, 63, 64, 65, 66, 67, 68, 69, 70, 71, 72, 73, 23, 74, 75, 76, 77, 78, 79, 80, 81, 82, 83, 84, 85, 86, 87, 88, 89, 90, 103, 104, 105, 106, 107, 91, 92, 93, 94, 95, 96, 97, 98, 99, 100, 101, 102] (by decide +kernel) (by decide +kernel)
set_option maxRecDepth 20000 in
theorem gX8_eat_X8_shinesNow : GoodIn wsX8_eat (wsV RX8 127 RX8 yX8_shinesNow wsX8_shinesNow) := goodIn_app (goodIn_of _ (by decide +kernel)) ggX8_eat_X8_shinesNow
theorem dX8_eat_0 : decode cX8_eat 0 = .ok (.aload_n 0, 1) := by decide +kernel
theorem dX8_eat_1 : decode cX8_eat 1 = .ok (.getfield 10, 3) := by decide +kernel
theorem dX8_eat_4 : decode cX8_eat 4 = .ok (.iload_n 1, 1) := by decide +kernel
theorem dX8_eat_5 : decode cX8_eat 5 = .ok (.invokevirtual 109, 3) := by decide +kernel
theorem dX8_eat_8 : decode cX8_eat 8 = .ok (.ifCond .eq 13, 3) := by decide +kernel
theorem dX8_eat_11 : decode cX8_eat 11 = .ok (.iload_n 2, 1) := by decide +kernel
theorem dX8_eat_12 : decode cX8_eat 12 = .ok (.iconst 0, 1) := by decide +kernel
theorem dX8_eat_13 : decode cX8_eat 13 = .ok (.bipush 99, 2) := by decide +kernel
theorem dX8_eat_15 : decode cX8_eat 15 = .ok (.invokestatic 79, 3) := by decide +kernel
theorem dX8_eat_18 : decode cX8_eat 18 = .ok (.ifCond .ne 10, 3) := by decide +kernel
theorem dX8_eat_21 : decode cX8_eat 21 = .ok (.aload_n 0, 1) := by decide +kernel
theorem dX8_eat_22 : decode cX8_eat 22 = .ok (.ldc 83, 2) := by decide +kernel
theorem dX8_eat_24 : decode cX8_eat 24 = .ok (.invokevirtual 84, 3) := by decide +kernel
theorem dX8_eat_27 : decode cX8_eat 27 = .ok (.ireturn, 1) := by decide +kernel
theorem dX8_eat_28 : decode cX8_eat 28 = .ok (.aload_n 0, 1) := by decide +kernel
theorem dX8_eat_29 : decode cX8_eat 29 = .ok (.getfield 10, 3) := by decide +kernel
theorem dX8_eat_32 : decode cX8_eat 32 = .ok (.iload_n 1, 1) := by decide +kernel
theorem dX8_eat_33 : decode cX8_eat 33 = .ok (.iload_n 2, 1) := by decide +kernel
theorem dX8_eat_34 : decode cX8_eat 34 = .ok (.invokevirtual 145, 3) := by decide +kernel
theorem dX8_eat_37 : decode cX8_eat 37 = .ok (.aload_n 0, 1) := by decide +kernel
theorem dX8_eat_38 : decode cX8_eat 38 = .ok (.iload_n 1, 1) := by decide +kernel
theorem dX8_eat_39 : decode cX8_eat 39 = .ok (.invokevirtual 127, 3) := by decide +kernel
theorem dX8_eat_42 : decode cX8_eat 42 = .ok (.ireturn, 1) := by decide +kernel
set_option maxRecDepth 20000 in
theorem ggX8_gives_X7_hasBeing : GoodIn wsX8_gives wsX7_hasBeing := goodIn_r _ [8, 9, 91, 92, 93, 94, 95, 96, 97, 98, 99, 100, 101, 102] (by decide +kernel) (by decide +kernel)
set_option maxRecDepth 20000 in
theorem gX8_gives_X7_hasBeing : GoodIn wsX8_gives (wsV RX8 109 RX7 yX7_hasBeing wsX7_hasBeing) := goodIn_app (goodIn_of _ (by decide +kernel)) ggX8_gives_X7_hasBeing
set_option maxRecDepth 20000 in
theorem ggX8_gives_X8_isPlace : GoodIn wsX8_gives wsX8_isPlace := goodIn_r _ [13, 14, 15, 12, 16] (by decide +kernel) (by decide +kernel)
set_option maxRecDepth 20000 in
theorem gX8_gives_X8_isPlace : GoodIn wsX8_gives (va_wsS RX8 75 yX8_isPlace wsX8_isPlace) := goodIn_app (goodIn_of _ (by decide +kernel)) ggX8_gives_X8_isPlace
set_option maxRecDepth 20000 in
theorem ggX8_gives_X8_found : GoodIn wsX8_gives wsX8_found := goodIn_r _ [20, 2, 21, 14, 15, 12, 16, 79, 80, 81, 82, 83, 84, 85, 86, 87, 88, 89, 90] (by decide +kernel) (by decide +kernel)
set_option maxRecDepth 20000 in
theorem gX8_gives_X8_found : GoodIn wsX8_gives (wsV RX8 84 RX8 yX8_found wsX8_found) := goodIn_app (goodIn_of _ (by decide +kernel)) ggX8_gives_X8_found
set_option maxRecDepth 20000 in
theorem ggX8_gives_X0_settleOn : GoodIn wsX8_gives wsX0_settleOn := goodIn_r _ [26, 27, 28, 29, 30, 31, 32, 33, 34, 35, 36, 37, 7, 38, 39, 40, 41, 42, 43, 44, 45, 46, 47, 48, 49, 50, 51, 52, 53, 12, 54, 55, 56, 57, 58, 59, 60, 61, 62, 63, 64, 65, 66, 67, 68, 69, 25, 70, 71, 91, 92, 93, 94, 95, 96, 97, 98, 99, 100, 101, 102, 103, 104, 105, 106, 107] (by decide +kernel) (by decide +kernel)
set_option maxRecDepth 20000 in
theorem gX8_gives_X0_settleOn : GoodIn wsX8_gives (wsV RX8 149 RX0 yX0_settleOn wsX0_settleOn) := goodIn_app (goodIn_of _ (by decide +kernel)) ggX8_gives_X0_settleOn
set_option maxRecDepth 20000 in
theorem ggX8_gives_X0_givesTo : GoodIn wsX8_gives wsX0_givesTo := goodIn_r _ [75, 33, 31, 76, 12, 77, 78, 51, 42, 52, 103, 104, 105, 106, 107] (by decide +kernel) (by decide +kernel)
set_option maxRecDepth 20000 in
theorem gX8_gives_X0_givesTo : GoodIn wsX8_gives (wsV RX8 153 RX0 yX0_givesTo wsX0_givesTo) := goodIn_app (goodIn_of _ (by decide +kernel)) ggX8_gives_X0_givesTo
theorem dX8_gives_0 : decode cX8_gives 0 = .ok (.aload_n 0, 1) := by decide +kernel
theorem dX8_gives_1 : decode cX8_gives 1 = .ok (.getfield 10, 3) := by decide +kernel
theorem dX8_gives_4 : decode cX8_gives 4 = .ok (.iload_n 1, 1) := by decide +kernel
theorem dX8_gives_5 : decode cX8_gives 5 = .ok (.invokevirtual 109, 3) := by decide +kernel
theorem dX8_gives_8 : decode cX8_gives 8 = .ok (.ifCond .eq 10, 3) := by decide +kernel
theorem dX8_gives_11 : decode cX8_gives 11 = .ok (.iload_n 2, 1) := by decide +kernel
theorem dX8_gives_12 : decode cX8_gives 12 = .ok (.invokestatic 75, 3) := by decide +kernel
theorem dX8_gives_15 : decode cX8_gives 15 = .ok (.ifCond .ne 10, 3) := by decide +kernel
theorem dX8_gives_18 : decode cX8_gives 18 = .ok (.aload_n 0, 1) := by decide +kernel
theorem dX8_gives_19 : decode cX8_gives 19 = .ok (.ldc 83, 2) := by decide +kernel
theorem dX8_gives_21 : decode cX8_gives 21 = .ok (.invokevirtual 84, 3) := by decide +kernel
theorem dX8_gives_24 : decode cX8_gives 24 = .ok (.ireturn, 1) := by decide +kernel
theorem dX8_gives_25 : decode cX8_gives 25 = .ok (.aload_n 0, 1) := by decide +kernel
theorem dX8_gives_26 : decode cX8_gives 26 = .ok (.getfield 29, 3) := by decide +kernel
theorem dX8_gives_29 : decode cX8_gives 29 = .ok (.aload_n 0, 1) := by decide +kernel
theorem dX8_gives_30 : decode cX8_gives 30 = .ok (.getfield 10, 3) := by decide +kernel
theorem dX8_gives_33 : decode cX8_gives 33 = .ok (.iconst 0, 1) := by decide +kernel
theorem dX8_gives_34 : decode cX8_gives 34 = .ok (.invokevirtual 149, 3) := by decide +kernel
theorem dX8_gives_37 : decode cX8_gives 37 = .ok (.aload_n 0, 1) := by decide +kernel
theorem dX8_gives_38 : decode cX8_gives 38 = .ok (.getfield 29, 3) := by decide +kernel
theorem dX8_gives_41 : decode cX8_gives 41 = .ok (.iload_n 1, 1) := by decide +kernel
theorem dX8_gives_42 : decode cX8_gives 42 = .ok (.iload_n 2, 1) := by decide +kernel
theorem dX8_gives_43 : decode cX8_gives 43 = .ok (.invokevirtual 153, 3) := by decide +kernel
theorem dX8_gives_46 : decode cX8_gives 46 = .ok (.ireturn, 1) := by decide +kernel
set_option maxRecDepth 20000 in
theorem ggX8_seen_X8_isPlace : GoodIn wsX8_seen wsX8_isPlace := goodIn_r _ [8, 9, 10, 7, 11] (by decide +kernel) (by decide +kernel)
set_option maxRecDepth 20000 in
theorem gX8_seen_X8_isPlace : GoodIn wsX8_seen (va_wsS RX8 75 yX8_isPlace wsX8_isPlace) := goodIn_app (goodIn_of _ (by decide +kernel)) ggX8_seen_X8_isPlace
set_option maxRecDepth 20000 in
theorem ggX8_seen_X8_found : GoodIn wsX8_seen wsX8_found := goodIn_r _ [15, 1, 16, 9, 10, 7, 11, 75, 76, 77, 78, 79, 80, 81, 82, 83, 84, 85, 86] (by decide +kernel) (by decide +kernel)
set_option maxRecDepth 20000 in
theorem gX8_seen_X8_found : GoodIn wsX8_seen (wsV RX8 84 RX8 yX8_found wsX8_found) := goodIn_app (goodIn_of _ (by decide +kernel)) ggX8_seen_X8_found
set_option maxRecDepth 20000 in
theorem ggX8_seen_X0_settleOn : GoodIn wsX8_seen wsX0_settleOn := goodIn_r _ [21, 22, 23, 24, 25, 26, 27, 28, 29, 30, 31, 32, 33, 34, 35, 36, 37, 38, 39, 40, 41, 42, 43, 44, 45, 46, 47, 48, 49, 7, 50, 51, 52, 53, 54, 55, 56, 57, 58, 59, 60, 61, 62, 63, 64, 65, 20, 66, 67, 87, 88, 89, 90, 91, 92, 93, 94, 95, 96, 97, 98, 99, 100, 101, 102, 103] (by decide +kernel) (by decide +kernel)
set_option maxRecDepth 20000 in
theorem gX8_seen_X0_settleOn : GoodIn wsX8_seen (wsV RX8 149 RX0 yX0_settleOn wsX0_settleOn) := goodIn_app (goodIn_of _ (by decide +kernel)) ggX8_seen_X0_settleOn
set_option maxRecDepth 20000 in
theorem ggX8_seen_X0_givesTo : GoodIn wsX8_seen wsX0_givesTo := goodIn_r _ [71, 28, 26, 72, 7, 73, 74, 47, 38, 48, 99, 100, 101, 102, 103] (by decide +kernel) (by decide +kernel)
set_option maxRecDepth 20000 in
theorem gX8_seen_X0_givesTo : GoodIn wsX8_seen (wsV RX8 153 RX0 yX0_givesTo wsX0_givesTo) := goodIn_app (goodIn_of _ (by decide +kernel)) ggX8_seen_X0_givesTo
theorem dX8_seen_0 : decode cX8_seen 0 = .ok (.iload_n 1, 1) := by decide +kernel
theorem dX8_seen_1 : decode cX8_seen 1 = .ok (.invokestatic 75, 3) := by decide +kernel
theorem dX8_seen_4 : decode cX8_seen 4 = .ok (.ifCond .ne 10, 3) := by decide +kernel
theorem dX8_seen_7 : decode cX8_seen 7 = .ok (.aload_n 0, 1) := by decide +kernel
theorem dX8_seen_8 : decode cX8_seen 8 = .ok (.ldc 83, 2) := by decide +kernel
theorem dX8_seen_10 : decode cX8_seen 10 = .ok (.invokevirtual 84, 3) := by decide +kernel
theorem dX8_seen_13 : decode cX8_seen 13 = .ok (.ireturn, 1) := by decide +kernel
theorem dX8_seen_14 : decode cX8_seen 14 = .ok (.aload_n 0, 1) := by decide +kernel
theorem dX8_seen_15 : decode cX8_seen 15 = .ok (.getfield 29, 3) := by decide +kernel
theorem dX8_seen_18 : decode cX8_seen 18 = .ok (.aload_n 0, 1) := by decide +kernel
theorem dX8_seen_19 : decode cX8_seen 19 = .ok (.getfield 10, 3) := by decide +kernel
theorem dX8_seen_22 : decode cX8_seen 22 = .ok (.iconst 0, 1) := by decide +kernel
theorem dX8_seen_23 : decode cX8_seen 23 = .ok (.invokevirtual 149, 3) := by decide +kernel
theorem dX8_seen_26 : decode cX8_seen 26 = .ok (.iconst 0, 1) := by decide +kernel
theorem dX8_seen_27 : decode cX8_seen 27 = .ok (.istore_n 2, 1) := by decide +kernel
theorem dX8_seen_28 : decode cX8_seen 28 = .ok (.iconst 0, 1) := by decide +kernel
theorem dX8_seen_29 : decode cX8_seen 29 = .ok (.istore_n 3, 1) := by decide +kernel
theorem dX8_seen_30 : decode cX8_seen 30 = .ok (.iload_n 3, 1) := by decide +kernel
theorem dX8_seen_31 : decode cX8_seen 31 = .ok (.aload_n 0, 1) := by decide +kernel
theorem dX8_seen_32 : decode cX8_seen 32 = .ok (.getfield 10, 3) := by decide +kernel
theorem dX8_seen_35 : decode cX8_seen 35 = .ok (.getfield 101, 3) := by decide +kernel
theorem dX8_seen_38 : decode cX8_seen 38 = .ok (.if_icmp .ge 27, 3) := by decide +kernel
theorem dX8_seen_41 : decode cX8_seen 41 = .ok (.aload_n 0, 1) := by decide +kernel
theorem dX8_seen_42 : decode cX8_seen 42 = .ok (.getfield 29, 3) := by decide +kernel
theorem dX8_seen_45 : decode cX8_seen 45 = .ok (.iload_n 3, 1) := by decide +kernel
theorem dX8_seen_46 : decode cX8_seen 46 = .ok (.iload_n 1, 1) := by decide +kernel
theorem dX8_seen_47 : decode cX8_seen 47 = .ok (.invokevirtual 153, 3) := by decide +kernel
theorem dX8_seen_50 : decode cX8_seen 50 = .ok (.ifCond .le 9, 3) := by decide +kernel
theorem dX8_seen_53 : decode cX8_seen 53 = .ok (.iload_n 2, 1) := by decide +kernel
theorem dX8_seen_54 : decode cX8_seen 54 = .ok (.iconst 1, 1) := by decide +kernel
theorem dX8_seen_55 : decode cX8_seen 55 = .ok (.iload_n 3, 1) := by decide +kernel
theorem dX8_seen_56 : decode cX8_seen 56 = .ok (.ishl, 1) := by decide +kernel
theorem dX8_seen_57 : decode cX8_seen 57 = .ok (.ior, 1) := by decide +kernel
theorem dX8_seen_58 : decode cX8_seen 58 = .ok (.istore_n 2, 1) := by decide +kernel
theorem dX8_seen_59 : decode cX8_seen 59 = .ok (.iinc 3 1, 3) := by decide +kernel
theorem dX8_seen_62 : decode cX8_seen 62 = .ok (.goto (-32), 3) := by decide +kernel
theorem dX8_seen_65 : decode cX8_seen 65 = .ok (.iload_n 2, 1) := by decide +kernel
theorem dX8_seen_66 : decode cX8_seen 66 = .ok (.ireturn, 1) := by decide +kernel
set_option maxRecDepth 20000 in
theorem ggX8_task_X8_isPlace : GoodIn wsX8_task wsX8_isPlace := goodIn_r _ [8, 9, 10, 7, 11] (by decide +kernel) (by decide +kernel)
set_option maxRecDepth 20000 in
theorem gX8_task_X8_isPlace : GoodIn wsX8_task (va_wsS RX8 75 yX8_isPlace wsX8_isPlace) := goodIn_app (goodIn_of _ (by decide +kernel)) ggX8_task_X8_isPlace
set_option maxRecDepth 20000 in
theorem ggX8_task_X8_within : GoodIn wsX8_task wsX8_within := goodIn_r _ [11] (by decide +kernel) (by decide +kernel)
set_option maxRecDepth 20000 in
theorem gX8_task_X8_within : GoodIn wsX8_task (va_wsS RX8 79 yX8_within wsX8_within) := goodIn_app (goodIn_of _ (by decide +kernel)) ggX8_task_X8_within
set_option maxRecDepth 20000 in
theorem ggX8_task_X8_found : GoodIn wsX8_task wsX8_found := goodIn_r _ [15, 1, 16, 9, 10, 7, 11, 26, 27, 28, 29, 30, 31, 32, 33, 34, 35, 36, 37] (by decide +kernel) (by decide +kernel)
set_option maxRecDepth 20000 in
theorem gX8_task_X8_found : GoodIn wsX8_task (wsV RX8 84 RX8 yX8_found wsX8_found) := goodIn_app (goodIn_of _ (by decide +kernel)) ggX8_task_X8_found
set_option maxRecDepth 20000 in
theorem ggX8_task_X7_addTask : GoodIn wsX8_task wsX7_addTask := goodIn_r _ [21, 22, 23, 24, 25, 38, 39, 40, 41, 42, 43, 44, 45, 46, 47, 48, 49] (by decide +kernel) (by decide +kernel)
set_option maxRecDepth 20000 in
theorem gX8_task_X7_addTask : GoodIn wsX8_task (wsV RX8 159 RX7 yX7_addTask wsX7_addTask) := goodIn_app (goodIn_of _ (by decide +kernel)) ggX8_task_X7_addTask
theorem dX8_task_0 : decode cX8_task 0 = .ok (.iload_n 1, 1) := by decide +kernel
theorem dX8_task_1 : decode cX8_task 1 = .ok (.invokestatic 75, 3) := by decide +kernel
theorem dX8_task_4 : decode cX8_task 4 = .ok (.ifCond .eq 23, 3) := by decide +kernel
theorem dX8_task_7 : decode cX8_task 7 = .ok (.iload_n 2, 1) := by decide +kernel
theorem dX8_task_8 : decode cX8_task 8 = .ok (.iconst 0, 1) := by decide +kernel
theorem dX8_task_9 : decode cX8_task 9 = .ok (.bipush 99, 2) := by decide +kernel
theorem dX8_task_11 : decode cX8_task 11 = .ok (.invokestatic 79, 3) := by decide +kernel
theorem dX8_task_14 : decode cX8_task 14 = .ok (.ifCond .eq 13, 3) := by decide +kernel
theorem dX8_task_17 : decode cX8_task 17 = .ok (.iload_n 3, 1) := by decide +kernel
theorem dX8_task_18 : decode cX8_task 18 = .ok (.iconst 1, 1) := by decide +kernel
theorem dX8_task_19 : decode cX8_task 19 = .ok (.bipush 99, 2) := by decide +kernel
theorem dX8_task_21 : decode cX8_task 21 = .ok (.invokestatic 79, 3) := by decide +kernel
theorem dX8_task_24 : decode cX8_task 24 = .ok (.ifCond .ne 10, 3) := by decide +kernel
theorem dX8_task_27 : decode cX8_task 27 = .ok (.aload_n 0, 1) := by decide +kernel
theorem dX8_task_28 : decode cX8_task 28 = .ok (.ldc 83, 2) := by decide +kernel
theorem dX8_task_30 : decode cX8_task 30 = .ok (.invokevirtual 84, 3) := by decide +kernel
theorem dX8_task_33 : decode cX8_task 33 = .ok (.ireturn, 1) := by decide +kernel
theorem dX8_task_34 : decode cX8_task 34 = .ok (.aload_n 0, 1) := by decide +kernel
theorem dX8_task_35 : decode cX8_task 35 = .ok (.getfield 10, 3) := by decide +kernel
theorem dX8_task_38 : decode cX8_task 38 = .ok (.getfield 156, 3) := by decide +kernel
theorem dX8_task_41 : decode cX8_task 41 = .ok (.bipush 8, 2) := by decide +kernel
theorem dX8_task_43 : decode cX8_task 43 = .ok (.if_icmp .lt 10, 3) := by decide +kernel
theorem dX8_task_46 : decode cX8_task 46 = .ok (.aload_n 0, 1) := by decide +kernel
theorem dX8_task_47 : decode cX8_task 47 = .ok (.ldc 105, 2) := by decide +kernel
theorem dX8_task_49 : decode cX8_task 49 = .ok (.invokevirtual 84, 3) := by decide +kernel
theorem dX8_task_52 : decode cX8_task 52 = .ok (.ireturn, 1) := by decide +kernel
theorem dX8_task_53 : decode cX8_task 53 = .ok (.aload_n 0, 1) := by decide +kernel
theorem dX8_task_54 : decode cX8_task 54 = .ok (.getfield 10, 3) := by decide +kernel
theorem dX8_task_57 : decode cX8_task 57 = .ok (.iload_n 1, 1) := by decide +kernel
theorem dX8_task_58 : decode cX8_task 58 = .ok (.iload_n 2, 1) := by decide +kernel
theorem dX8_task_59 : decode cX8_task 59 = .ok (.iload_n 3, 1) := by decide +kernel
theorem dX8_task_60 : decode cX8_task 60 = .ok (.invokevirtual 159, 3) := by decide +kernel
theorem dX8_task_63 : decode cX8_task 63 = .ok (.ireturn, 1) := by decide +kernel
set_option maxRecDepth 20000 in
theorem ggX8_taskOf_X7_hasTask : GoodIn wsX8_taskOf wsX7_hasTask := goodIn_r _ [10, 11, 110, 111, 112, 113, 114, 115, 116, 117, 118, 119, 120, 121] (by decide +kernel) (by decide +kernel)
set_option maxRecDepth 20000 in
theorem gX8_taskOf_X7_hasTask : GoodIn wsX8_taskOf (wsV RX8 163 RX7 yX7_hasTask wsX7_hasTask) := goodIn_app (goodIn_of _ (by decide +kernel)) ggX8_taskOf_X7_hasTask
set_option maxRecDepth 20000 in
theorem ggX8_taskOf_X8_found : GoodIn wsX8_taskOf wsX8_found := goodIn_r _ [16, 2, 17, 18, 19, 15, 20, 98, 99, 100, 101, 102, 103, 104, 105, 106, 107, 108, 109] (by decide +kernel) (by decide +kernel)
set_option maxRecDepth 20000 in
theorem gX8_taskOf_X8_found : GoodIn wsX8_taskOf (wsV RX8 84 RX8 yX8_found wsX8_found) := goodIn_app (goodIn_of _ (by decide +kernel)) ggX8_taskOf_X8_found
set_option maxRecDepth 20000 in
theorem ggX8_taskOf_X8_lightOn : GoodIn wsX8_taskOf wsX8_lightOn := goodIn_r _ [24, 25, 1, 26, 27, 28, 29, 30, 31, 32, 33, 34, 35, 36, 37, 38, 39, 40, 41, 9, 42, 43, 44, 45, 46, 47, 48, 49, 50, 51, 52, 53, 54, 55, 56, 57, 15, 58, 59, 60, 61, 62, 63, 64, 65, 66, 67, 68, 69, 70, 71, 72, 73, 74, 75, 76, 77, 78, 79, 80, 81, 82, 83, 84, 85, 86, 98, 99, 100, 101, 102, 103, 104, 105, 106, 107, 108, 109, 110, 111, 112, 113, 114, 115, 116, 117, 118, 119, 120, 121, 122, 123, 124, 125, 126] (by decide +kernel) (by decide +kernel)
set_option maxRecDepth 20000 in
theorem gX8_taskOf_X8_lightOn : GoodIn wsX8_taskOf (wsV RX8 91 RX8 yX8_lightOn wsX8_lightOn) := goodIn_app (goodIn_of _ (by decide +kernel)) ggX8_taskOf_X8_lightOn
set_option maxRecDepth 20000 in
theorem ggX8_taskOf_X8_isDone : GoodIn wsX8_taskOf wsX8_isDone := goodIn_r _ [90, 25, 4, 91, 3, 5, 92, 93, 94, 9, 95, 96, 97, 19, 15, 20, 26, 27, 28, 29, 30, 31, 32, 33, 34, 35, 36, 37, 38, 39, 40, 41, 42, 43, 44, 45, 46, 47, 48, 49, 50, 51, 52, 53, 54, 55, 56, 57, 58, 59, 60, 61, 62, 63, 64, 65, 66, 67, 68, 69, 70, 71, 72, 73, 74, 75, 76, 77, 78, 79, 80, 81, 82, 83, 84, 85, 86, 98, 99, 100, 101, 102, 103, 104, 105, 106, 107, 108, 109, 110, 111, 112, 113, 114, 115, 116, 117, 118, 119, 120, 121, 122, 123, 124, 125, 126] (by decide +kernel) (by decide +kernel)
set_option maxRecDepth 20000 in
theorem gX8_taskOf_X8_isDone : GoodIn wsX8_taskOf (wsV RX8 175 RX8 yX8_isDone wsX8_isDone) := goodIn_app (goodIn_of _ (by decide +kernel)) ggX8_taskOf_X8_isDone
theorem dX8_taskOf_0 : decode cX8_taskOf 0 = .ok (.aload_n 0, 1) := by decide +kernel
theorem dX8_taskOf_1 : decode cX8_taskOf 1 = .ok (.getfield 10, 3) := by decide +kernel
theorem dX8_taskOf_4 : decode cX8_taskOf 4 = .ok (.iload_n 1, 1) := by decide +kernel
theorem dX8_taskOf_5 : decode cX8_taskOf 5 = .ok (.invokevirtual 163, 3) := by decide +kernel
theorem dX8_taskOf_8 : decode cX8_taskOf 8 = .ok (.ifCond .ne 10, 3) := by decide +kernel
theorem dX8_taskOf_11 : decode cX8_taskOf 11 = .ok (.aload_n 0, 1) := by decide +kernel
theorem dX8_taskOf_12 : decode cX8_taskOf 12 = .ok (.ldc 83, 2) := by decide +kernel
theorem dX8_taskOf_14 : decode cX8_taskOf 14 = .ok (.invokevirtual 84, 3) := by decide +kernel
theorem dX8_taskOf_17 : decode cX8_taskOf 17 = .ok (.ireturn, 1) := by decide +kernel
theorem dX8_taskOf_18 : decode cX8_taskOf 18 = .ok (.iload_n 2, 1) := by decide +kernel
theorem dX8_taskOf_19 : decode cX8_taskOf 19 = .ok (.tableswitch 113 0 4 #[33, 43, 53, 63, 95], 33) := by decide +kernel
theorem dX8_taskOf_52 : decode cX8_taskOf 52 = .ok (.aload_n 0, 1) := by decide +kernel
theorem dX8_taskOf_53 : decode cX8_taskOf 53 = .ok (.getfield 10, 3) := by decide +kernel
theorem dX8_taskOf_56 : decode cX8_taskOf 56 = .ok (.getfield 166, 3) := by decide +kernel
theorem dX8_taskOf_59 : decode cX8_taskOf 59 = .ok (.iload_n 1, 1) := by decide +kernel
theorem dX8_taskOf_60 : decode cX8_taskOf 60 = .ok (.iaload, 1) := by decide +kernel
theorem dX8_taskOf_61 : decode cX8_taskOf 61 = .ok (.ireturn, 1) := by decide +kernel
theorem dX8_taskOf_62 : decode cX8_taskOf 62 = .ok (.aload_n 0, 1) := by decide +kernel
theorem dX8_taskOf_63 : decode cX8_taskOf 63 = .ok (.getfield 10, 3) := by decide +kernel
theorem dX8_taskOf_66 : decode cX8_taskOf 66 = .ok (.getfield 169, 3) := by decide +kernel
theorem dX8_taskOf_69 : decode cX8_taskOf 69 = .ok (.iload_n 1, 1) := by decide +kernel
theorem dX8_taskOf_70 : decode cX8_taskOf 70 = .ok (.iaload, 1) := by decide +kernel
theorem dX8_taskOf_71 : decode cX8_taskOf 71 = .ok (.ireturn, 1) := by decide +kernel
theorem dX8_taskOf_72 : decode cX8_taskOf 72 = .ok (.aload_n 0, 1) := by decide +kernel
theorem dX8_taskOf_73 : decode cX8_taskOf 73 = .ok (.getfield 10, 3) := by decide +kernel
theorem dX8_taskOf_76 : decode cX8_taskOf 76 = .ok (.getfield 172, 3) := by decide +kernel
theorem dX8_taskOf_79 : decode cX8_taskOf 79 = .ok (.iload_n 1, 1) := by decide +kernel
theorem dX8_taskOf_80 : decode cX8_taskOf 80 = .ok (.iaload, 1) := by decide +kernel
theorem dX8_taskOf_81 : decode cX8_taskOf 81 = .ok (.ireturn, 1) := by decide +kernel
theorem dX8_taskOf_82 : decode cX8_taskOf 82 = .ok (.aload_n 0, 1) := by decide +kernel
theorem dX8_taskOf_83 : decode cX8_taskOf 83 = .ok (.aload_n 0, 1) := by decide +kernel
theorem dX8_taskOf_84 : decode cX8_taskOf 84 = .ok (.getfield 10, 3) := by decide +kernel
theorem dX8_taskOf_87 : decode cX8_taskOf 87 = .ok (.getfield 166, 3) := by decide +kernel
theorem dX8_taskOf_90 : decode cX8_taskOf 90 = .ok (.iload_n 1, 1) := by decide +kernel
theorem dX8_taskOf_91 : decode cX8_taskOf 91 = .ok (.iaload, 1) := by decide +kernel
theorem dX8_taskOf_92 : decode cX8_taskOf 92 = .ok (.iconst 0, 1) := by decide +kernel
theorem dX8_taskOf_93 : decode cX8_taskOf 93 = .ok (.invokevirtual 91, 3) := by decide +kernel
theorem dX8_taskOf_96 : decode cX8_taskOf 96 = .ok (.aload_n 0, 1) := by decide +kernel
theorem dX8_taskOf_97 : decode cX8_taskOf 97 = .ok (.getfield 10, 3) := by decide +kernel
theorem dX8_taskOf_100 : decode cX8_taskOf 100 = .ok (.getfield 172, 3) := by decide +kernel
theorem dX8_taskOf_103 : decode cX8_taskOf 103 = .ok (.iload_n 1, 1) := by decide +kernel
theorem dX8_taskOf_104 : decode cX8_taskOf 104 = .ok (.iaload, 1) := by decide +kernel
theorem dX8_taskOf_105 : decode cX8_taskOf 105 = .ok (.if_icmp .ge 7, 3) := by decide +kernel
theorem dX8_taskOf_108 : decode cX8_taskOf 108 = .ok (.iconst 1, 1) := by decide +kernel
theorem dX8_taskOf_109 : decode cX8_taskOf 109 = .ok (.goto 4, 3) := by decide +kernel
theorem dX8_taskOf_112 : decode cX8_taskOf 112 = .ok (.iconst 0, 1) := by decide +kernel
theorem dX8_taskOf_113 : decode cX8_taskOf 113 = .ok (.ireturn, 1) := by decide +kernel
theorem dX8_taskOf_114 : decode cX8_taskOf 114 = .ok (.aload_n 0, 1) := by decide +kernel
theorem dX8_taskOf_115 : decode cX8_taskOf 115 = .ok (.aload_n 0, 1) := by decide +kernel
theorem dX8_taskOf_116 : decode cX8_taskOf 116 = .ok (.getfield 10, 3) := by decide +kernel
theorem dX8_taskOf_119 : decode cX8_taskOf 119 = .ok (.iload_n 1, 1) := by decide +kernel
theorem dX8_taskOf_120 : decode cX8_taskOf 120 = .ok (.invokevirtual 175, 3) := by decide +kernel
theorem dX8_taskOf_123 : decode cX8_taskOf 123 = .ok (.ifCond .eq 7, 3) := by decide +kernel
theorem dX8_taskOf_126 : decode cX8_taskOf 126 = .ok (.iconst 1, 1) := by decide +kernel
theorem dX8_taskOf_127 : decode cX8_taskOf 127 = .ok (.goto 4, 3) := by decide +kernel
theorem dX8_taskOf_130 : decode cX8_taskOf 130 = .ok (.iconst 0, 1) := by decide +kernel
theorem dX8_taskOf_131 : decode cX8_taskOf 131 = .ok (.ireturn, 1) := by decide +kernel
theorem dX8_taskOf_132 : decode cX8_taskOf 132 = .ok (.aload_n 0, 1) := by decide +kernel
theorem dX8_taskOf_133 : decode cX8_taskOf 133 = .ok (.ldc 83, 2) := by decide +kernel
theorem dX8_taskOf_135 : decode cX8_taskOf 135 = .ok (.invokevirtual 84, 3) := by decide +kernel
theorem dX8_taskOf_138 : decode cX8_taskOf 138 = .ok (.ireturn, 1) := by decide +kernel
set_option maxRecDepth 20000 in
theorem ggX8_hours_X8_within : GoodIn wsX8_hours wsX8_within := goodIn_r _ [8] (by decide +kernel) (by decide +kernel)
set_option maxRecDepth 20000 in
theorem gX8_hours_X8_within : GoodIn wsX8_hours (va_wsS RX8 79 yX8_within wsX8_within) := goodIn_app (goodIn_of _ (by decide +kernel)) ggX8_hours_X8_within
set_option maxRecDepth 20000 in
theorem ggX8_hours_X8_found : GoodIn wsX8_hours wsX8_found := goodIn_r _ [12, 1, 13, 5, 6, 7, 8, 98, 99, 100, 101, 102, 103, 104, 105, 106, 107, 108, 109] (by decide +kernel) (by decide +kernel)
set_option maxRecDepth 20000 in
theorem gX8_hours_X8_found : GoodIn wsX8_hours (wsV RX8 84 RX8 yX8_found wsX8_found) := goodIn_app (goodIn_of _ (by decide +kernel)) ggX8_hours_X8_found
set_option maxRecDepth 20000 in
theorem ggX8_hours_X7_passHours : GoodIn wsX8_hours wsX7_passHours := goodIn_r _ [18, 19, 20, 21, 22, 23, 24, 25, 26, 17, 27, 28, 29, 30, 31, 32, 33, 7, 34, 35, 36, 37, 38, 39, 40, 41, 42, 43, 44, 45, 46, 47, 48, 49, 50, 110, 111, 112, 113, 114, 115, 116, 117, 118, 119, 120, 121] (by decide +kernel) (by decide +kernel)
set_option maxRecDepth 20000 in
theorem gX8_hours_X7_passHours : GoodIn wsX8_hours (wsV RX8 183 RX7 yX7_passHours wsX7_passHours) := goodIn_app (goodIn_of _ (by decide +kernel)) ggX8_hours_X7_passHours
set_option maxRecDepth 20000 in
theorem ggX8_hours_X8_allLight : GoodIn wsX8_hours wsX8_allLight := goodIn_r _ [54, 55, 56, 57, 58, 7, 59, 60, 2, 61, 62, 63, 64, 65, 66, 67, 68, 69, 70, 71, 72, 73, 74, 47, 48, 17, 49, 22, 50, 39, 31, 40, 75, 25, 26, 27, 20, 28, 29, 30, 32, 33, 34, 35, 36, 37, 38, 76, 77, 78, 79, 42, 43, 44, 21, 45, 80, 81, 82, 83, 84, 85, 86, 87, 88, 89, 90, 91, 92, 93, 94, 95, 96, 97, 98, 99, 100, 101, 102, 103, 104, 105, 106, 107, 108, 109, 110, 111, 112, 113, 114, 115, 116, 117, 118, 119, 120, 121, 122, 123, 124, 125, 126] (by decide +kernel) (by decide +kernel)
set_option maxRecDepth 20000 in
theorem gX8_hours_X8_allLight : GoodIn wsX8_hours (wsV RX8 187 RX8 yX8_allLight wsX8_allLight) := goodIn_app (goodIn_of _ (by decide +kernel)) ggX8_hours_X8_allLight
theorem dX8_hours_0 : decode cX8_hours 0 = .ok (.iload_n 1, 1) := by decide +kernel
theorem dX8_hours_1 : decode cX8_hours 1 = .ok (.iconst 1, 1) := by decide +kernel
theorem dX8_hours_2 : decode cX8_hours 2 = .ok (.bipush 100, 2) := by decide +kernel
theorem dX8_hours_4 : decode cX8_hours 4 = .ok (.invokestatic 79, 3) := by decide +kernel
theorem dX8_hours_7 : decode cX8_hours 7 = .ok (.ifCond .ne 10, 3) := by decide +kernel
theorem dX8_hours_10 : decode cX8_hours 10 = .ok (.aload_n 0, 1) := by decide +kernel
theorem dX8_hours_11 : decode cX8_hours 11 = .ok (.ldc 83, 2) := by decide +kernel
theorem dX8_hours_13 : decode cX8_hours 13 = .ok (.invokevirtual 84, 3) := by decide +kernel
theorem dX8_hours_16 : decode cX8_hours 16 = .ok (.ireturn, 1) := by decide +kernel
theorem dX8_hours_17 : decode cX8_hours 17 = .ok (.aload_n 0, 1) := by decide +kernel
theorem dX8_hours_18 : decode cX8_hours 18 = .ok (.getfield 10, 3) := by decide +kernel
theorem dX8_hours_21 : decode cX8_hours 21 = .ok (.getfield 179, 3) := by decide +kernel
theorem dX8_hours_24 : decode cX8_hours 24 = .ok (.iload_n 1, 1) := by decide +kernel
theorem dX8_hours_25 : decode cX8_hours 25 = .ok (.iadd, 1) := by decide +kernel
theorem dX8_hours_26 : decode cX8_hours 26 = .ok (.sipush 9999, 3) := by decide +kernel
theorem dX8_hours_29 : decode cX8_hours 29 = .ok (.if_icmp .le 10, 3) := by decide +kernel
theorem dX8_hours_32 : decode cX8_hours 32 = .ok (.aload_n 0, 1) := by decide +kernel
theorem dX8_hours_33 : decode cX8_hours 33 = .ok (.ldc 182, 2) := by decide +kernel
theorem dX8_hours_35 : decode cX8_hours 35 = .ok (.invokevirtual 84, 3) := by decide +kernel
theorem dX8_hours_38 : decode cX8_hours 38 = .ok (.ireturn, 1) := by decide +kernel
theorem dX8_hours_39 : decode cX8_hours 39 = .ok (.aload_n 0, 1) := by decide +kernel
theorem dX8_hours_40 : decode cX8_hours 40 = .ok (.getfield 10, 3) := by decide +kernel
theorem dX8_hours_43 : decode cX8_hours 43 = .ok (.iload_n 1, 1) := by decide +kernel
theorem dX8_hours_44 : decode cX8_hours 44 = .ok (.invokevirtual 183, 3) := by decide +kernel
theorem dX8_hours_47 : decode cX8_hours 47 = .ok (.aload_n 0, 1) := by decide +kernel
theorem dX8_hours_48 : decode cX8_hours 48 = .ok (.invokevirtual 187, 3) := by decide +kernel
theorem dX8_hours_51 : decode cX8_hours 51 = .ok (.ireturn, 1) := by decide +kernel
set_option maxRecDepth 20000 in
theorem ggX8_now_X8_allShine : GoodIn wsX8_now wsX8_allShine := goodIn_r _ [9, 10, 1, 11, 12, 13, 14, 15, 16, 17, 18, 19, 20, 21, 22, 23, 24, 25, 26, 27, 28, 29, 30, 31, 32, 33, 34, 35, 36, 37, 38, 39, 40, 41, 42, 43, 44, 45, 8, 46, 47, 48, 49, 50, 51, 52, 53, 54, 55, 56, 57, 58, 59, 60, 61, 62, 63, 64, 65, 66, 118, 119, 120, 121, 122, 123, 124, 125, 126, 127, 128, 129, 142, 143, 144, 145, 146, 130, 131, 132, 133, 134, 135, 136, 137, 138, 139, 140, 141] (by decide +kernel) (by decide +kernel)
set_option maxRecDepth 20000 in
theorem gX8_now_X8_allShine : GoodIn wsX8_now (wsV RX8 191 RX8 yX8_allShine wsX8_allShine) := goodIn_app (goodIn_of _ (by decide +kernel)) ggX8_now_X8_allShine
set_option maxRecDepth 20000 in
theorem ggX8_now_X8_sumOf : GoodIn wsX8_now wsX8_sumOf := goodIn_r _ [66] (by decide +kernel) (by decide +kernel)
set_option maxRecDepth 20000 in
theorem gX8_now_X8_sumOf : GoodIn wsX8_now (va_wsS RX8 194 yX8_sumOf wsX8_sumOf) := goodIn_app (goodIn_of _ (by decide +kernel)) ggX8_now_X8_sumOf
set_option maxRecDepth 20000 in
theorem ggX8_now_X8_allLight : GoodIn wsX8_now wsX8_allLight := goodIn_r _ [70, 71, 72, 73, 74, 8, 75, 10, 1, 13, 14, 15, 16, 17, 18, 19, 20, 21, 22, 23, 24, 25, 26, 27, 28, 29, 30, 31, 32, 33, 34, 35, 36, 37, 38, 39, 40, 41, 42, 43, 44, 45, 46, 47, 48, 49, 50, 51, 52, 53, 54, 55, 56, 57, 58, 59, 60, 61, 62, 63, 76, 77, 78, 79, 80, 81, 82, 83, 84, 85, 86, 64, 65, 66, 118, 119, 120, 121, 122, 123, 124, 125, 126, 127, 128, 129, 130, 131, 132, 133, 134, 135, 136, 137, 138, 139, 140, 141, 142, 143, 144, 145, 146] (by decide +kernel) (by decide +kernel)
set_option maxRecDepth 20000 in
theorem gX8_now_X8_allLight : GoodIn wsX8_now (wsV RX8 187 RX8 yX8_allLight wsX8_allLight) := goodIn_app (goodIn_of _ (by decide +kernel)) ggX8_now_X8_allLight
set_option maxRecDepth 20000 in
theorem ggX8_now_X7_arrivedSet : GoodIn wsX8_now wsX7_arrivedSet := goodIn_r _ [90, 91, 40, 41, 130, 131, 132, 133, 134, 135, 136, 137, 138, 139, 140, 141] (by decide +kernel) (by decide +kernel)
set_option maxRecDepth 20000 in
theorem gX8_now_X7_arrivedSet : GoodIn wsX8_now (wsV RX8 198 RX7 yX7_arrivedSet wsX7_arrivedSet) := goodIn_app (goodIn_of _ (by decide +kernel)) ggX8_now_X7_arrivedSet
set_option maxRecDepth 20000 in
theorem ggX8_now_X8_doneSet : GoodIn wsX8_now wsX8_doneSet := goodIn_r _ [95, 96, 97, 98, 99, 8, 100, 10, 101, 2, 102, 103, 104, 105, 106, 29, 107, 108, 109, 110, 111, 13, 14, 15, 16, 17, 18, 19, 20, 21, 22, 23, 24, 25, 26, 27, 28, 30, 31, 32, 33, 34, 35, 36, 37, 38, 39, 40, 41, 42, 43, 44, 45, 46, 47, 48, 49, 50, 51, 52, 53, 54, 55, 56, 57, 58, 59, 60, 61, 62, 63, 76, 77, 78, 79, 80, 81, 82, 83, 84, 85, 86, 130, 131, 132, 133, 134, 135, 136, 137, 138, 139, 140, 141, 118, 119, 120, 121, 122, 123, 124, 125, 126, 127, 128, 129, 142, 143, 144, 145, 146] (by decide +kernel) (by decide +kernel)
set_option maxRecDepth 20000 in
theorem gX8_now_X8_doneSet : GoodIn wsX8_now (wsV RX8 201 RX8 yX8_doneSet wsX8_doneSet) := goodIn_app (goodIn_of _ (by decide +kernel)) ggX8_now_X8_doneSet
set_option maxRecDepth 20000 in
theorem ggX8_now_X8_found : GoodIn wsX8_now wsX8_found := goodIn_r _ [115, 4, 116, 117, 110, 8, 111, 118, 119, 120, 121, 122, 123, 124, 125, 126, 127, 128, 129] (by decide +kernel) (by decide +kernel)
set_option maxRecDepth 20000 in
theorem gX8_now_X8_found : GoodIn wsX8_now (wsV RX8 84 RX8 yX8_found wsX8_found) := goodIn_app (goodIn_of _ (by decide +kernel)) ggX8_now_X8_found
theorem dX8_now_0 : decode cX8_now 0 = .ok (.iload_n 1, 1) := by decide +kernel
theorem dX8_now_1 : decode cX8_now 1 = .ok (.tableswitch 87 0 5 #[39, 47, 52, 65, 70, 78], 39) := by decide +kernel
theorem dX8_now_40 : decode cX8_now 40 = .ok (.aload_n 0, 1) := by decide +kernel
theorem dX8_now_41 : decode cX8_now 41 = .ok (.getfield 10, 3) := by decide +kernel
theorem dX8_now_44 : decode cX8_now 44 = .ok (.getfield 179, 3) := by decide +kernel
theorem dX8_now_47 : decode cX8_now 47 = .ok (.ireturn, 1) := by decide +kernel
theorem dX8_now_48 : decode cX8_now 48 = .ok (.aload_n 0, 1) := by decide +kernel
theorem dX8_now_49 : decode cX8_now 49 = .ok (.invokevirtual 191, 3) := by decide +kernel
theorem dX8_now_52 : decode cX8_now 52 = .ok (.ireturn, 1) := by decide +kernel
theorem dX8_now_53 : decode cX8_now 53 = .ok (.aload_n 0, 1) := by decide +kernel
theorem dX8_now_54 : decode cX8_now 54 = .ok (.getfield 10, 3) := by decide +kernel
theorem dX8_now_57 : decode cX8_now 57 = .ok (.getfield 88, 3) := by decide +kernel
theorem dX8_now_60 : decode cX8_now 60 = .ok (.bipush 16, 2) := by decide +kernel
theorem dX8_now_62 : decode cX8_now 62 = .ok (.invokestatic 194, 3) := by decide +kernel
theorem dX8_now_65 : decode cX8_now 65 = .ok (.ireturn, 1) := by decide +kernel
theorem dX8_now_66 : decode cX8_now 66 = .ok (.aload_n 0, 1) := by decide +kernel
theorem dX8_now_67 : decode cX8_now 67 = .ok (.invokevirtual 187, 3) := by decide +kernel
theorem dX8_now_70 : decode cX8_now 70 = .ok (.ireturn, 1) := by decide +kernel
theorem dX8_now_71 : decode cX8_now 71 = .ok (.aload_n 0, 1) := by decide +kernel
theorem dX8_now_72 : decode cX8_now 72 = .ok (.getfield 10, 3) := by decide +kernel
theorem dX8_now_75 : decode cX8_now 75 = .ok (.invokevirtual 198, 3) := by decide +kernel
theorem dX8_now_78 : decode cX8_now 78 = .ok (.ireturn, 1) := by decide +kernel
theorem dX8_now_79 : decode cX8_now 79 = .ok (.aload_n 0, 1) := by decide +kernel
theorem dX8_now_80 : decode cX8_now 80 = .ok (.aload_n 0, 1) := by decide +kernel
theorem dX8_now_81 : decode cX8_now 81 = .ok (.getfield 10, 3) := by decide +kernel
theorem dX8_now_84 : decode cX8_now 84 = .ok (.invokevirtual 201, 3) := by decide +kernel
theorem dX8_now_87 : decode cX8_now 87 = .ok (.ireturn, 1) := by decide +kernel
theorem dX8_now_88 : decode cX8_now 88 = .ok (.aload_n 0, 1) := by decide +kernel
theorem dX8_now_89 : decode cX8_now 89 = .ok (.ldc 83, 2) := by decide +kernel
theorem dX8_now_91 : decode cX8_now 91 = .ok (.invokevirtual 84, 3) := by decide +kernel
theorem dX8_now_94 : decode cX8_now 94 = .ok (.ireturn, 1) := by decide +kernel
set_option maxRecDepth 20000 in
theorem ggX8_on_X8_isPlace : GoodIn wsX8_on wsX8_isPlace := goodIn_r _ [5, 6, 7, 4, 8] (by decide +kernel) (by decide +kernel)
set_option maxRecDepth 20000 in
theorem gX8_on_X8_isPlace : GoodIn wsX8_on (va_wsS RX8 75 yX8_isPlace wsX8_isPlace) := goodIn_app (goodIn_of _ (by decide +kernel)) ggX8_on_X8_isPlace
set_option maxRecDepth 20000 in
theorem ggX8_on_X8_within : GoodIn wsX8_on wsX8_within := goodIn_r _ [8] (by decide +kernel) (by decide +kernel)
set_option maxRecDepth 20000 in
theorem gX8_on_X8_within : GoodIn wsX8_on (va_wsS RX8 79 yX8_within wsX8_within) := goodIn_app (goodIn_of _ (by decide +kernel)) ggX8_on_X8_within
set_option maxRecDepth 20000 in
theorem ggX8_on_X8_found : GoodIn wsX8_on wsX8_found := goodIn_r _ [12, 1, 13, 6, 7, 4, 8, 82, 83, 84, 85, 86, 87, 88, 89, 90, 91, 92, 93] (by decide +kernel) (by decide +kernel)
set_option maxRecDepth 20000 in
theorem gX8_on_X8_found : GoodIn wsX8_on (wsV RX8 84 RX8 yX8_found wsX8_found) := goodIn_app (goodIn_of _ (by decide +kernel)) ggX8_on_X8_found
set_option maxRecDepth 20000 in
theorem ggX8_on_X8_lightOn : GoodIn wsX8_on wsX8_lightOn := goodIn_r _ [17, 18, 19, 20, 21, 22, 23, 24, 25, 26, 27, 28, 29, 30, 31, 32, 33, 34, 35, 36, 37, 38, 39, 40, 41, 42, 43, 44, 45, 46, 47, 48, 49, 50, 51, 52, 4, 53, 54, 55, 56, 57, 58, 59, 60, 61, 62, 63, 64, 65, 66, 67, 68, 69, 70, 71, 72, 73, 74, 75, 76, 77, 78, 79, 80, 81, 82, 83, 84, 85, 86, 87, 88, 89, 90, 91, 92, 93, 94, 95, 96, 97, 98, 99, 100, 101, 102, 103, 104, 105, 106, 107, 108, 109, 110] (by decide +kernel) (by decide +kernel)
set_option maxRecDepth 20000 in
theorem gX8_on_X8_lightOn : GoodIn wsX8_on (wsV RX8 91 RX8 yX8_lightOn wsX8_lightOn) := goodIn_app (goodIn_of _ (by decide +kernel)) ggX8_on_X8_lightOn
theorem dX8_on_0 : decode cX8_on 0 = .ok (.iload_n 1, 1) := by decide +kernel
theorem dX8_on_1 : decode cX8_on 1 = .ok (.invokestatic 75, 3) := by decide +kernel
theorem dX8_on_4 : decode cX8_on 4 = .ok (.ifCond .eq 13, 3) := by decide +kernel
theorem dX8_on_7 : decode cX8_on 7 = .ok (.iload_n 2, 1) := by decide +kernel
theorem dX8_on_8 : decode cX8_on 8 = .ok (.iconst 0, 1) := by decide +kernel
theorem dX8_on_9 : decode cX8_on 9 = .ok (.bipush 100, 2) := by decide +kernel
theorem dX8_on_11 : decode cX8_on 11 = .ok (.invokestatic 79, 3) := by decide +kernel
theorem dX8_on_14 : decode cX8_on 14 = .ok (.ifCond .ne 10, 3) := by decide +kernel
theorem dX8_on_17 : decode cX8_on 17 = .ok (.aload_n 0, 1) := by decide +kernel
theorem dX8_on_18 : decode cX8_on 18 = .ok (.ldc 83, 2) := by decide +kernel
theorem dX8_on_20 : decode cX8_on 20 = .ok (.invokevirtual 84, 3) := by decide +kernel
theorem dX8_on_23 : decode cX8_on 23 = .ok (.ireturn, 1) := by decide +kernel
theorem dX8_on_24 : decode cX8_on 24 = .ok (.aload_n 0, 1) := by decide +kernel
theorem dX8_on_25 : decode cX8_on 25 = .ok (.iload_n 1, 1) := by decide +kernel
theorem dX8_on_26 : decode cX8_on 26 = .ok (.iload_n 2, 1) := by decide +kernel
theorem dX8_on_27 : decode cX8_on 27 = .ok (.invokevirtual 91, 3) := by decide +kernel
theorem dX8_on_30 : decode cX8_on 30 = .ok (.ireturn, 1) := by decide +kernel
set_option maxRecDepth 20000 in
theorem ggX8_dark_X7_comes : GoodIn wsX8_dark wsX7_comes := goodIn_r _ [9, 10, 11, 12, 13, 14, 103, 104, 105, 106, 107, 108, 109, 110, 111, 112, 113, 114] (by decide +kernel) (by decide +kernel)
set_option maxRecDepth 20000 in
theorem gX8_dark_X7_comes : GoodIn wsX8_dark (wsV RX8 205 RX7 yX7_comes wsX7_comes) := goodIn_app (goodIn_of _ (by decide +kernel)) ggX8_dark_X7_comes
set_option maxRecDepth 20000 in
theorem ggX8_dark_X8_isDone : GoodIn wsX8_dark wsX8_isDone := goodIn_r _ [18, 19, 3, 20, 21, 22, 5, 6, 7, 8, 9, 10, 11, 12, 13, 14, 23, 24, 25, 26, 27, 28, 29, 30, 31, 32, 33, 34, 35, 36, 37, 38, 39, 40, 41, 42, 43, 44, 45, 46, 47, 48, 49, 50, 51, 52, 53, 54, 55, 56, 57, 58, 59, 60, 61, 62, 63, 64, 65, 66, 67, 68, 69, 70, 71, 72, 73, 74, 75, 76, 77, 78, 79, 80, 81, 82, 83, 91, 92, 93, 94, 95, 96, 97, 98, 99, 100, 101, 102, 103, 104, 105, 106, 107, 108, 109, 110, 111, 112, 113, 114, 115, 116, 117, 118, 119] (by decide +kernel) (by decide +kernel)
set_option maxRecDepth 20000 in
theorem gX8_dark_X8_isDone : GoodIn wsX8_dark (wsV RX8 175 RX8 yX8_isDone wsX8_isDone) := goodIn_app (goodIn_of _ (by decide +kernel)) ggX8_dark_X8_isDone
set_option maxRecDepth 20000 in
theorem ggX8_dark_X8_found : GoodIn wsX8_dark wsX8_found := goodIn_r _ [87, 88, 89, 90, 12, 13, 14, 91, 92, 93, 94, 95, 96, 97, 98, 99, 100, 101, 102] (by decide +kernel) (by decide +kernel)
set_option maxRecDepth 20000 in
theorem gX8_dark_X8_found : GoodIn wsX8_dark (wsV RX8 84 RX8 yX8_found wsX8_found) := goodIn_app (goodIn_of _ (by decide +kernel)) ggX8_dark_X8_found
theorem dX8_dark_0 : decode cX8_dark 0 = .ok (.iconst (-1), 1) := by decide +kernel
theorem dX8_dark_1 : decode cX8_dark 1 = .ok (.istore_n 1, 1) := by decide +kernel
theorem dX8_dark_2 : decode cX8_dark 2 = .ok (.iconst 0, 1) := by decide +kernel
theorem dX8_dark_3 : decode cX8_dark 3 = .ok (.istore_n 2, 1) := by decide +kernel
theorem dX8_dark_4 : decode cX8_dark 4 = .ok (.iload_n 2, 1) := by decide +kernel
theorem dX8_dark_5 : decode cX8_dark 5 = .ok (.aload_n 0, 1) := by decide +kernel
theorem dX8_dark_6 : decode cX8_dark 6 = .ok (.getfield 10, 3) := by decide +kernel
theorem dX8_dark_9 : decode cX8_dark 9 = .ok (.getfield 156, 3) := by decide +kernel
theorem dX8_dark_12 : decode cX8_dark 12 = .ok (.if_icmp .ge 69, 3) := by decide +kernel
theorem dX8_dark_15 : decode cX8_dark 15 = .ok (.aload_n 0, 1) := by decide +kernel
theorem dX8_dark_16 : decode cX8_dark 16 = .ok (.getfield 10, 3) := by decide +kernel
theorem dX8_dark_19 : decode cX8_dark 19 = .ok (.iload_n 2, 1) := by decide +kernel
theorem dX8_dark_20 : decode cX8_dark 20 = .ok (.invokevirtual 205, 3) := by decide +kernel
theorem dX8_dark_23 : decode cX8_dark 23 = .ok (.ifCond .eq 19, 3) := by decide +kernel
theorem dX8_dark_26 : decode cX8_dark 26 = .ok (.aload_n 0, 1) := by decide +kernel
theorem dX8_dark_27 : decode cX8_dark 27 = .ok (.aload_n 0, 1) := by decide +kernel
theorem dX8_dark_28 : decode cX8_dark 28 = .ok (.getfield 10, 3) := by decide +kernel
theorem dX8_dark_31 : decode cX8_dark 31 = .ok (.iload_n 2, 1) := by decide +kernel
theorem dX8_dark_32 : decode cX8_dark 32 = .ok (.invokevirtual 175, 3) := by decide +kernel
theorem dX8_dark_35 : decode cX8_dark 35 = .ok (.ifCond .ne 7, 3) := by decide +kernel
theorem dX8_dark_38 : decode cX8_dark 38 = .ok (.iconst 1, 1) := by decide +kernel
theorem dX8_dark_39 : decode cX8_dark 39 = .ok (.goto 4, 3) := by decide +kernel
theorem dX8_dark_42 : decode cX8_dark 42 = .ok (.iconst 0, 1) := by decide +kernel
theorem dX8_dark_43 : decode cX8_dark 43 = .ok (.istore_n 3, 1) := by decide +kernel
theorem dX8_dark_44 : decode cX8_dark 44 = .ok (.iload_n 3, 1) := by decide +kernel
theorem dX8_dark_45 : decode cX8_dark 45 = .ok (.ifCond .eq 30, 3) := by decide +kernel
theorem dX8_dark_48 : decode cX8_dark 48 = .ok (.iload_n 1, 1) := by decide +kernel
theorem dX8_dark_49 : decode cX8_dark 49 = .ok (.ifCond .lt 24, 3) := by decide +kernel
theorem dX8_dark_52 : decode cX8_dark 52 = .ok (.aload_n 0, 1) := by decide +kernel
theorem dX8_dark_53 : decode cX8_dark 53 = .ok (.getfield 10, 3) := by decide +kernel
theorem dX8_dark_56 : decode cX8_dark 56 = .ok (.getfield 169, 3) := by decide +kernel
theorem dX8_dark_59 : decode cX8_dark 59 = .ok (.iload_n 2, 1) := by decide +kernel
theorem dX8_dark_60 : decode cX8_dark 60 = .ok (.iaload, 1) := by decide +kernel
theorem dX8_dark_61 : decode cX8_dark 61 = .ok (.aload_n 0, 1) := by decide +kernel
theorem dX8_dark_62 : decode cX8_dark 62 = .ok (.getfield 10, 3) := by decide +kernel
theorem dX8_dark_65 : decode cX8_dark 65 = .ok (.getfield 169, 3) := by decide +kernel
theorem dX8_dark_68 : decode cX8_dark 68 = .ok (.iload_n 1, 1) := by decide +kernel
theorem dX8_dark_69 : decode cX8_dark 69 = .ok (.iaload, 1) := by decide +kernel
theorem dX8_dark_70 : decode cX8_dark 70 = .ok (.if_icmp .ge 5, 3) := by decide +kernel
theorem dX8_dark_73 : decode cX8_dark 73 = .ok (.iload_n 2, 1) := by decide +kernel
theorem dX8_dark_74 : decode cX8_dark 74 = .ok (.istore_n 1, 1) := by decide +kernel
theorem dX8_dark_75 : decode cX8_dark 75 = .ok (.iinc 2 1, 3) := by decide +kernel
theorem dX8_dark_78 : decode cX8_dark 78 = .ok (.goto (-74), 3) := by decide +kernel
theorem dX8_dark_81 : decode cX8_dark 81 = .ok (.iload_n 1, 1) := by decide +kernel
theorem dX8_dark_82 : decode cX8_dark 82 = .ok (.ifCond .ge 12, 3) := by decide +kernel
theorem dX8_dark_85 : decode cX8_dark 85 = .ok (.aload_n 0, 1) := by decide +kernel
theorem dX8_dark_86 : decode cX8_dark 86 = .ok (.ldc 208, 2) := by decide +kernel
theorem dX8_dark_88 : decode cX8_dark 88 = .ok (.invokevirtual 84, 3) := by decide +kernel
theorem dX8_dark_91 : decode cX8_dark 91 = .ok (.goto 4, 3) := by decide +kernel
theorem dX8_dark_94 : decode cX8_dark 94 = .ok (.iload_n 1, 1) := by decide +kernel
theorem dX8_dark_95 : decode cX8_dark 95 = .ok (.ireturn, 1) := by decide +kernel
set_option maxRecDepth 20000 in
theorem ggX8_out_X0_settleOn : GoodIn wsX8_out wsX0_settleOn := goodIn_r _ [8, 9, 10, 11, 12, 13, 14, 15, 16, 17, 18, 19, 20, 21, 22, 23, 24, 25, 26, 27, 28, 29, 30, 31, 32, 33, 34, 35, 36, 37, 38, 39, 40, 41, 42, 43, 44, 45, 46, 47, 48, 49, 50, 51, 52, 53, 7, 54, 55, 83, 84, 85, 86, 87, 88, 89, 90, 91, 92, 93, 94, 95, 96, 97, 98, 99] (by decide +kernel) (by decide +kernel)
set_option maxRecDepth 20000 in
theorem gX8_out_X0_settleOn : GoodIn wsX8_out (wsV RX8 149 RX0 yX0_settleOn wsX0_settleOn) := goodIn_app (goodIn_of _ (by decide +kernel)) ggX8_out_X0_settleOn
set_option maxRecDepth 20000 in
theorem ggX8_out_X0_isOut : GoodIn wsX8_out wsX0_isOut := goodIn_r _ [59, 11, 15, 10, 60, 37, 61, 95, 96, 97, 98, 99] (by decide +kernel) (by decide +kernel)
set_option maxRecDepth 20000 in
theorem gX8_out_X0_isOut : GoodIn wsX8_out (wsV RX8 209 RX0 yX0_isOut wsX0_isOut) := goodIn_app (goodIn_of _ (by decide +kernel)) ggX8_out_X0_isOut
set_option maxRecDepth 20000 in
theorem ggX8_out_X8_found : GoodIn wsX8_out wsX8_found := goodIn_r _ [65, 66, 67, 68, 69, 37, 70, 71, 72, 73, 74, 75, 76, 77, 78, 79, 80, 81, 82] (by decide +kernel) (by decide +kernel)
set_option maxRecDepth 20000 in
theorem gX8_out_X8_found : GoodIn wsX8_out (wsV RX8 84 RX8 yX8_found wsX8_found) := goodIn_app (goodIn_of _ (by decide +kernel)) ggX8_out_X8_found
theorem dX8_out_0 : decode cX8_out 0 = .ok (.iconst 0, 1) := by decide +kernel
theorem dX8_out_1 : decode cX8_out 1 = .ok (.istore_n 1, 1) := by decide +kernel
theorem dX8_out_2 : decode cX8_out 2 = .ok (.iload_n 1, 1) := by decide +kernel
theorem dX8_out_3 : decode cX8_out 3 = .ok (.bipush 100, 2) := by decide +kernel
theorem dX8_out_5 : decode cX8_out 5 = .ok (.if_icmp .gt 33, 3) := by decide +kernel
theorem dX8_out_8 : decode cX8_out 8 = .ok (.aload_n 0, 1) := by decide +kernel
theorem dX8_out_9 : decode cX8_out 9 = .ok (.getfield 29, 3) := by decide +kernel
theorem dX8_out_12 : decode cX8_out 12 = .ok (.aload_n 0, 1) := by decide +kernel
theorem dX8_out_13 : decode cX8_out 13 = .ok (.getfield 10, 3) := by decide +kernel
theorem dX8_out_16 : decode cX8_out 16 = .ok (.iload_n 1, 1) := by decide +kernel
theorem dX8_out_17 : decode cX8_out 17 = .ok (.invokevirtual 149, 3) := by decide +kernel
theorem dX8_out_20 : decode cX8_out 20 = .ok (.aload_n 0, 1) := by decide +kernel
theorem dX8_out_21 : decode cX8_out 21 = .ok (.getfield 29, 3) := by decide +kernel
theorem dX8_out_24 : decode cX8_out 24 = .ok (.invokevirtual 209, 3) := by decide +kernel
theorem dX8_out_27 : decode cX8_out 27 = .ok (.ifCond .eq 5, 3) := by decide +kernel
theorem dX8_out_30 : decode cX8_out 30 = .ok (.iload_n 1, 1) := by decide +kernel
theorem dX8_out_31 : decode cX8_out 31 = .ok (.ireturn, 1) := by decide +kernel
theorem dX8_out_32 : decode cX8_out 32 = .ok (.iinc 1 1, 3) := by decide +kernel
theorem dX8_out_35 : decode cX8_out 35 = .ok (.goto (-33), 3) := by decide +kernel
theorem dX8_out_38 : decode cX8_out 38 = .ok (.aload_n 0, 1) := by decide +kernel
theorem dX8_out_39 : decode cX8_out 39 = .ok (.ldc 208, 2) := by decide +kernel
theorem dX8_out_41 : decode cX8_out 41 = .ok (.invokevirtual 84, 3) := by decide +kernel
theorem dX8_out_44 : decode cX8_out 44 = .ok (.ireturn, 1) := by decide +kernel
set_option maxRecDepth 20000 in
theorem ggX8_meet_X7_hasBeing : GoodIn wsX8_meet wsX7_hasBeing := goodIn_r _ [8, 9, 49, 50, 51, 52, 53, 54, 55, 56, 57, 58, 59, 60] (by decide +kernel) (by decide +kernel)
set_option maxRecDepth 20000 in
theorem gX8_meet_X7_hasBeing : GoodIn wsX8_meet (wsV RX8 109 RX7 yX7_hasBeing wsX7_hasBeing) := goodIn_app (goodIn_of _ (by decide +kernel)) ggX8_meet_X7_hasBeing
set_option maxRecDepth 20000 in
theorem ggX8_meet_X8_found : GoodIn wsX8_meet wsX8_found := goodIn_r _ [14, 2, 15, 16, 17, 13, 18, 37, 38, 39, 40, 41, 42, 43, 44, 45, 46, 47, 48] (by decide +kernel) (by decide +kernel)
set_option maxRecDepth 20000 in
theorem gX8_meet_X8_found : GoodIn wsX8_meet (wsV RX8 84 RX8 yX8_found wsX8_found) := goodIn_app (goodIn_of _ (by decide +kernel)) ggX8_meet_X8_found
set_option maxRecDepth 20000 in
theorem ggX8_meet_X7_standsOn : GoodIn wsX8_meet wsX7_standsOn := goodIn_r _ [22, 23, 24, 25, 26, 27, 28, 29, 13, 30, 31, 32, 33, 34, 35, 36, 49, 50, 51, 52, 53, 54, 55, 56, 57, 58, 59, 60] (by decide +kernel) (by decide +kernel)
set_option maxRecDepth 20000 in
theorem gX8_meet_X7_standsOn : GoodIn wsX8_meet (wsV RX8 213 RX7 yX7_standsOn wsX7_standsOn) := goodIn_app (goodIn_of _ (by decide +kernel)) ggX8_meet_X7_standsOn
theorem dX8_meet_0 : decode cX8_meet 0 = .ok (.aload_n 0, 1) := by decide +kernel
theorem dX8_meet_1 : decode cX8_meet 1 = .ok (.getfield 10, 3) := by decide +kernel
theorem dX8_meet_4 : decode cX8_meet 4 = .ok (.iload_n 1, 1) := by decide +kernel
theorem dX8_meet_5 : decode cX8_meet 5 = .ok (.invokevirtual 109, 3) := by decide +kernel
theorem dX8_meet_8 : decode cX8_meet 8 = .ok (.ifCond .eq 19, 3) := by decide +kernel
theorem dX8_meet_11 : decode cX8_meet 11 = .ok (.aload_n 0, 1) := by decide +kernel
theorem dX8_meet_12 : decode cX8_meet 12 = .ok (.getfield 10, 3) := by decide +kernel
theorem dX8_meet_15 : decode cX8_meet 15 = .ok (.iload_n 2, 1) := by decide +kernel
theorem dX8_meet_16 : decode cX8_meet 16 = .ok (.invokevirtual 109, 3) := by decide +kernel
theorem dX8_meet_19 : decode cX8_meet 19 = .ok (.ifCond .eq 8, 3) := by decide +kernel
theorem dX8_meet_22 : decode cX8_meet 22 = .ok (.iload_n 1, 1) := by decide +kernel
theorem dX8_meet_23 : decode cX8_meet 23 = .ok (.iload_n 2, 1) := by decide +kernel
theorem dX8_meet_24 : decode cX8_meet 24 = .ok (.if_icmp .ne 10, 3) := by decide +kernel
theorem dX8_meet_27 : decode cX8_meet 27 = .ok (.aload_n 0, 1) := by decide +kernel
theorem dX8_meet_28 : decode cX8_meet 28 = .ok (.ldc 83, 2) := by decide +kernel
theorem dX8_meet_30 : decode cX8_meet 30 = .ok (.invokevirtual 84, 3) := by decide +kernel
theorem dX8_meet_33 : decode cX8_meet 33 = .ok (.ireturn, 1) := by decide +kernel
theorem dX8_meet_34 : decode cX8_meet 34 = .ok (.iconst 0, 1) := by decide +kernel
theorem dX8_meet_35 : decode cX8_meet 35 = .ok (.istore_n 3, 1) := by decide +kernel
theorem dX8_meet_36 : decode cX8_meet 36 = .ok (.iload_n 3, 1) := by decide +kernel
theorem dX8_meet_37 : decode cX8_meet 37 = .ok (.bipush 100, 2) := by decide +kernel
theorem dX8_meet_39 : decode cX8_meet 39 = .ok (.if_icmp .gt 32, 3) := by decide +kernel
theorem dX8_meet_42 : decode cX8_meet 42 = .ok (.aload_n 0, 1) := by decide +kernel
theorem dX8_meet_43 : decode cX8_meet 43 = .ok (.getfield 10, 3) := by decide +kernel
theorem dX8_meet_46 : decode cX8_meet 46 = .ok (.iload_n 1, 1) := by decide +kernel
theorem dX8_meet_47 : decode cX8_meet 47 = .ok (.iload_n 3, 1) := by decide +kernel
theorem dX8_meet_48 : decode cX8_meet 48 = .ok (.invokevirtual 213, 3) := by decide +kernel
theorem dX8_meet_51 : decode cX8_meet 51 = .ok (.aload_n 0, 1) := by decide +kernel
theorem dX8_meet_52 : decode cX8_meet 52 = .ok (.getfield 10, 3) := by decide +kernel
theorem dX8_meet_55 : decode cX8_meet 55 = .ok (.iload_n 2, 1) := by decide +kernel
theorem dX8_meet_56 : decode cX8_meet 56 = .ok (.iload_n 3, 1) := by decide +kernel
theorem dX8_meet_57 : decode cX8_meet 57 = .ok (.invokevirtual 213, 3) := by decide +kernel
theorem dX8_meet_60 : decode cX8_meet 60 = .ok (.if_icmp .ne 5, 3) := by decide +kernel
theorem dX8_meet_63 : decode cX8_meet 63 = .ok (.iload_n 3, 1) := by decide +kernel
theorem dX8_meet_64 : decode cX8_meet 64 = .ok (.ireturn, 1) := by decide +kernel
theorem dX8_meet_65 : decode cX8_meet 65 = .ok (.iinc 3 1, 3) := by decide +kernel
theorem dX8_meet_68 : decode cX8_meet 68 = .ok (.goto (-32), 3) := by decide +kernel
theorem dX8_meet_71 : decode cX8_meet 71 = .ok (.aload_n 0, 1) := by decide +kernel
theorem dX8_meet_72 : decode cX8_meet 72 = .ok (.ldc 208, 2) := by decide +kernel
theorem dX8_meet_74 : decode cX8_meet 74 = .ok (.invokevirtual 84, 3) := by decide +kernel
theorem dX8_meet_77 : decode cX8_meet 77 = .ok (.ireturn, 1) := by decide +kernel
set_option maxRecDepth 20000 in
theorem ggX8_stealth_X8_isPlace : GoodIn wsX8_stealth wsX8_isPlace := goodIn_r _ [7, 8, 9, 6, 10] (by decide +kernel) (by decide +kernel)
set_option maxRecDepth 20000 in
theorem gX8_stealth_X8_isPlace : GoodIn wsX8_stealth (va_wsS RX8 75 yX8_isPlace wsX8_isPlace) := goodIn_app (goodIn_of _ (by decide +kernel)) ggX8_stealth_X8_isPlace
set_option maxRecDepth 20000 in
theorem ggX8_stealth_X8_found : GoodIn wsX8_stealth wsX8_found := goodIn_r _ [14, 1, 15, 8, 9, 6, 10, 100, 101, 102, 103, 104, 105, 106, 107, 108, 109, 110, 111] (by decide +kernel) (by decide +kernel)
set_option maxRecDepth 20000 in
theorem gX8_stealth_X8_found : GoodIn wsX8_stealth (wsV RX8 84 RX8 yX8_found wsX8_found) := goodIn_app (goodIn_of _ (by decide +kernel)) ggX8_stealth_X8_found
set_option maxRecDepth 20000 in
theorem ggX8_stealth_X8_lightAll : GoodIn wsX8_stealth wsX8_lightAll := goodIn_r _ [19, 20, 21, 3, 22, 23, 24, 25, 26, 27, 28, 29, 30, 31, 32, 33, 34, 35, 36, 37, 38, 39, 40, 41, 42, 43, 44, 45, 46, 47, 48, 49, 50, 51, 52, 53, 54, 6, 55, 56, 57, 58, 59, 60, 61, 62, 63, 64, 65, 66, 67, 68, 69, 70, 71, 72, 73, 74, 75, 76, 77, 78, 79, 80, 81, 82, 83, 100, 101, 102, 103, 104, 105, 106, 107, 108, 109, 110, 111, 112, 113, 114, 115, 116, 117, 118, 119, 120, 121, 122, 123, 124, 125, 126, 127, 128] (by decide +kernel) (by decide +kernel)
set_option maxRecDepth 20000 in
theorem gX8_stealth_X8_lightAll : GoodIn wsX8_stealth (wsV RX8 95 RX8 yX8_lightAll wsX8_lightAll) := goodIn_app (goodIn_of _ (by decide +kernel)) ggX8_stealth_X8_lightAll
set_option maxRecDepth 20000 in
theorem ggX8_stealth_X6_leastGlare : GoodIn wsX8_stealth wsX6_leastGlare := goodIn_r _ [88, 89, 42, 43, 44, 90, 91, 92, 93, 87, 94, 95, 96, 97, 98, 99, 81, 6, 82, 83, 52, 53, 129, 130] (by decide +kernel) (by decide +kernel)
set_option maxRecDepth 20000 in
theorem gX8_stealth_X6_leastGlare : GoodIn wsX8_stealth (wsV RX8 216 RX6 yX6_leastGlare wsX6_leastGlare) := goodIn_app (goodIn_of _ (by decide +kernel)) ggX8_stealth_X6_leastGlare
theorem dX8_stealth_0 : decode cX8_stealth 0 = .ok (.iload_n 1, 1) := by decide +kernel
theorem dX8_stealth_1 : decode cX8_stealth 1 = .ok (.invokestatic 75, 3) := by decide +kernel
theorem dX8_stealth_4 : decode cX8_stealth 4 = .ok (.ifCond .eq 10, 3) := by decide +kernel
theorem dX8_stealth_7 : decode cX8_stealth 7 = .ok (.iload_n 2, 1) := by decide +kernel
theorem dX8_stealth_8 : decode cX8_stealth 8 = .ok (.invokestatic 75, 3) := by decide +kernel
theorem dX8_stealth_11 : decode cX8_stealth 11 = .ok (.ifCond .ne 10, 3) := by decide +kernel
theorem dX8_stealth_14 : decode cX8_stealth 14 = .ok (.aload_n 0, 1) := by decide +kernel
theorem dX8_stealth_15 : decode cX8_stealth 15 = .ok (.ldc 83, 2) := by decide +kernel
theorem dX8_stealth_17 : decode cX8_stealth 17 = .ok (.invokevirtual 84, 3) := by decide +kernel
theorem dX8_stealth_20 : decode cX8_stealth 20 = .ok (.ireturn, 1) := by decide +kernel
theorem dX8_stealth_21 : decode cX8_stealth 21 = .ok (.aload_n 0, 1) := by decide +kernel
theorem dX8_stealth_22 : decode cX8_stealth 22 = .ok (.invokevirtual 95, 3) := by decide +kernel
theorem dX8_stealth_25 : decode cX8_stealth 25 = .ok (.aload_n 0, 1) := by decide +kernel
theorem dX8_stealth_26 : decode cX8_stealth 26 = .ok (.getfield 64, 3) := by decide +kernel
theorem dX8_stealth_29 : decode cX8_stealth 29 = .ok (.aload_n 0, 1) := by decide +kernel
theorem dX8_stealth_30 : decode cX8_stealth 30 = .ok (.getfield 68, 3) := by decide +kernel
theorem dX8_stealth_33 : decode cX8_stealth 33 = .ok (.iload_n 1, 1) := by decide +kernel
theorem dX8_stealth_34 : decode cX8_stealth 34 = .ok (.iload_n 2, 1) := by decide +kernel
theorem dX8_stealth_35 : decode cX8_stealth 35 = .ok (.invokevirtual 216, 3) := by decide +kernel
theorem dX8_stealth_38 : decode cX8_stealth 38 = .ok (.ireturn, 1) := by decide +kernel
set_option maxRecDepth 20000 in
theorem ggX8_way_X8_isPlace : GoodIn wsX8_way wsX8_isPlace := goodIn_r _ [9, 10, 11, 8, 12] (by decide +kernel) (by decide +kernel)
set_option maxRecDepth 20000 in
theorem gX8_way_X8_isPlace : GoodIn wsX8_way (va_wsS RX8 75 yX8_isPlace wsX8_isPlace) := goodIn_app (goodIn_of _ (by decide +kernel)) ggX8_way_X8_isPlace
set_option maxRecDepth 20000 in
theorem ggX8_way_X8_within : GoodIn wsX8_way wsX8_within := goodIn_r _ [12] (by decide +kernel) (by decide +kernel)
set_option maxRecDepth 20000 in
theorem gX8_way_X8_within : GoodIn wsX8_way (va_wsS RX8 79 yX8_within wsX8_within) := goodIn_app (goodIn_of _ (by decide +kernel)) ggX8_way_X8_within
set_option maxRecDepth 20000 in
theorem ggX8_way_X8_found : GoodIn wsX8_way wsX8_found := goodIn_r _ [16, 1, 17, 10, 11, 8, 12, 97, 98, 99, 100, 101, 102, 103, 104, 105, 106, 107, 108] (by decide +kernel) (by decide +kernel)
set_option maxRecDepth 20000 in
theorem gX8_way_X8_found : GoodIn wsX8_way (wsV RX8 84 RX8 yX8_found wsX8_found) := goodIn_app (goodIn_of _ (by decide +kernel)) ggX8_way_X8_found
set_option maxRecDepth 20000 in
theorem ggX8_way_X8_lightAll : GoodIn wsX8_way wsX8_lightAll := goodIn_r _ [21, 22, 23, 3, 24, 25, 26, 27, 28, 29, 30, 31, 32, 33, 34, 35, 36, 37, 38, 39, 40, 41, 42, 43, 44, 45, 46, 47, 48, 49, 50, 51, 52, 53, 54, 55, 56, 8, 57, 58, 59, 60, 61, 62, 63, 64, 65, 66, 67, 68, 69, 70, 71, 72, 73, 74, 75, 76, 77, 78, 79, 80, 81, 82, 83, 84, 85, 97, 98, 99, 100, 101, 102, 103, 104, 105, 106, 107, 108, 111, 112, 113, 114, 115, 116, 117, 118, 119, 120, 121, 122, 123, 124, 125, 126, 127] (by decide +kernel) (by decide +kernel)
set_option maxRecDepth 20000 in
theorem gX8_way_X8_lightAll : GoodIn wsX8_way (wsV RX8 95 RX8 yX8_lightAll wsX8_lightAll) := goodIn_app (goodIn_of _ (by decide +kernel)) ggX8_way_X8_lightAll
set_option maxRecDepth 20000 in
theorem ggX8_way_X6_spreadFrom : GoodIn wsX8_way wsX6_spreadFrom := goodIn_r _ [90, 91, 92, 93, 94, 95, 96, 83, 8, 84, 85, 54, 45, 55, 109, 110] (by decide +kernel) (by decide +kernel)
set_option maxRecDepth 20000 in
theorem gX8_way_X6_spreadFrom : GoodIn wsX8_way (wsV RX8 220 RX6 yX6_spreadFrom wsX6_spreadFrom) := goodIn_app (goodIn_of _ (by decide +kernel)) ggX8_way_X6_spreadFrom
theorem dX8_way_0 : decode cX8_way 0 = .ok (.iload_n 1, 1) := by decide +kernel
theorem dX8_way_1 : decode cX8_way 1 = .ok (.invokestatic 75, 3) := by decide +kernel
theorem dX8_way_4 : decode cX8_way 4 = .ok (.ifCond .eq 21, 3) := by decide +kernel
theorem dX8_way_7 : decode cX8_way 7 = .ok (.iload_n 2, 1) := by decide +kernel
theorem dX8_way_8 : decode cX8_way 8 = .ok (.invokestatic 75, 3) := by decide +kernel
theorem dX8_way_11 : decode cX8_way 11 = .ok (.ifCond .eq 14, 3) := by decide +kernel
theorem dX8_way_14 : decode cX8_way 14 = .ok (.iload_n 3, 1) := by decide +kernel
theorem dX8_way_15 : decode cX8_way 15 = .ok (.iconst 0, 1) := by decide +kernel
theorem dX8_way_16 : decode cX8_way 16 = .ok (.sipush 9999, 3) := by decide +kernel
theorem dX8_way_19 : decode cX8_way 19 = .ok (.invokestatic 79, 3) := by decide +kernel
theorem dX8_way_22 : decode cX8_way 22 = .ok (.ifCond .ne 10, 3) := by decide +kernel
theorem dX8_way_25 : decode cX8_way 25 = .ok (.aload_n 0, 1) := by decide +kernel
theorem dX8_way_26 : decode cX8_way 26 = .ok (.ldc 83, 2) := by decide +kernel
theorem dX8_way_28 : decode cX8_way 28 = .ok (.invokevirtual 84, 3) := by decide +kernel
theorem dX8_way_31 : decode cX8_way 31 = .ok (.ireturn, 1) := by decide +kernel
theorem dX8_way_32 : decode cX8_way 32 = .ok (.aload_n 0, 1) := by decide +kernel
theorem dX8_way_33 : decode cX8_way 33 = .ok (.invokevirtual 95, 3) := by decide +kernel
theorem dX8_way_36 : decode cX8_way 36 = .ok (.aload_n 0, 1) := by decide +kernel
theorem dX8_way_37 : decode cX8_way 37 = .ok (.getfield 64, 3) := by decide +kernel
theorem dX8_way_40 : decode cX8_way 40 = .ok (.aload_n 0, 1) := by decide +kernel
theorem dX8_way_41 : decode cX8_way 41 = .ok (.getfield 68, 3) := by decide +kernel
theorem dX8_way_44 : decode cX8_way 44 = .ok (.iload_n 2, 1) := by decide +kernel
theorem dX8_way_45 : decode cX8_way 45 = .ok (.iload_n 3, 1) := by decide +kernel
theorem dX8_way_46 : decode cX8_way 46 = .ok (.invokevirtual 220, 3) := by decide +kernel
theorem dX8_way_49 : decode cX8_way 49 = .ok (.aload_n 0, 1) := by decide +kernel
theorem dX8_way_50 : decode cX8_way 50 = .ok (.getfield 64, 3) := by decide +kernel
theorem dX8_way_53 : decode cX8_way 53 = .ok (.getfield 224, 3) := by decide +kernel
theorem dX8_way_56 : decode cX8_way 56 = .ok (.iload_n 1, 1) := by decide +kernel
theorem dX8_way_57 : decode cX8_way 57 = .ok (.iaload, 1) := by decide +kernel
theorem dX8_way_58 : decode cX8_way 58 = .ok (.ifCond .ge 12, 3) := by decide +kernel
theorem dX8_way_61 : decode cX8_way 61 = .ok (.aload_n 0, 1) := by decide +kernel
theorem dX8_way_62 : decode cX8_way 62 = .ok (.ldc 208, 2) := by decide +kernel
theorem dX8_way_64 : decode cX8_way 64 = .ok (.invokevirtual 84, 3) := by decide +kernel
theorem dX8_way_67 : decode cX8_way 67 = .ok (.goto 12, 3) := by decide +kernel
theorem dX8_way_70 : decode cX8_way 70 = .ok (.aload_n 0, 1) := by decide +kernel
theorem dX8_way_71 : decode cX8_way 71 = .ok (.getfield 64, 3) := by decide +kernel
theorem dX8_way_74 : decode cX8_way 74 = .ok (.getfield 224, 3) := by decide +kernel
theorem dX8_way_77 : decode cX8_way 77 = .ok (.iload_n 1, 1) := by decide +kernel
theorem dX8_way_78 : decode cX8_way 78 = .ok (.iaload, 1) := by decide +kernel
theorem dX8_way_79 : decode cX8_way 79 = .ok (.ireturn, 1) := by decide +kernel
set_option maxRecDepth 20000 in
theorem ggX8_first_X8_isPlace : GoodIn wsX8_first wsX8_isPlace := goodIn_r _ [8, 9, 10, 7, 11] (by decide +kernel) (by decide +kernel)
set_option maxRecDepth 20000 in
theorem gX8_first_X8_isPlace : GoodIn wsX8_first (va_wsS RX8 75 yX8_isPlace wsX8_isPlace) := goodIn_app (goodIn_of _ (by decide +kernel)) ggX8_first_X8_isPlace
set_option maxRecDepth 20000 in
theorem ggX8_first_X8_within : GoodIn wsX8_first wsX8_within := goodIn_r _ [11] (by decide +kernel) (by decide +kernel)
set_option maxRecDepth 20000 in
theorem gX8_first_X8_within : GoodIn wsX8_first (va_wsS RX8 79 yX8_within wsX8_within) := goodIn_app (goodIn_of _ (by decide +kernel)) ggX8_first_X8_within
set_option maxRecDepth 20000 in
theorem ggX8_first_X8_found : GoodIn wsX8_first wsX8_found := goodIn_r _ [15, 1, 16, 9, 10, 7, 11, 100, 101, 102, 103, 104, 105, 106, 107, 108, 109, 110, 111] (by decide +kernel) (by decide +kernel)
set_option maxRecDepth 20000 in
theorem gX8_first_X8_found : GoodIn wsX8_first (wsV RX8 84 RX8 yX8_found wsX8_found) := goodIn_app (goodIn_of _ (by decide +kernel)) ggX8_first_X8_found
set_option maxRecDepth 20000 in
theorem ggX8_first_X8_lightAll : GoodIn wsX8_first wsX8_lightAll := goodIn_r _ [20, 21, 22, 3, 23, 24, 25, 26, 27, 28, 29, 30, 31, 32, 33, 34, 35, 36, 37, 38, 39, 40, 41, 42, 43, 44, 45, 46, 47, 48, 49, 50, 51, 52, 53, 54, 55, 7, 56, 57, 58, 59, 60, 61, 62, 63, 64, 65, 66, 67, 68, 69, 70, 71, 72, 73, 74, 75, 76, 77, 78, 79, 80, 81, 82, 83, 84, 100, 101, 102, 103, 104, 105, 106, 107, 108, 109, 110, 111, 112, 113, 114, 115, 116, 117, 118, 119, 120, 121, 122, 123, 124, 125, 126, 127, 128] (by decide +kernel) (by decide +kernel)
set_option maxRecDepth 20000 in
theorem gX8_first_X8_lightAll : GoodIn wsX8_first (wsV RX8 95 RX8 yX8_lightAll wsX8_lightAll) := goodIn_app (goodIn_of _ (by decide +kernel)) ggX8_first_X8_lightAll
set_option maxRecDepth 20000 in
theorem ggX8_first_X6_spreadFrom : GoodIn wsX8_first wsX6_spreadFrom := goodIn_r _ [89, 90, 91, 92, 93, 94, 95, 82, 7, 83, 84, 53, 44, 54, 129, 130] (by decide +kernel) (by decide +kernel)
set_option maxRecDepth 20000 in
theorem gX8_first_X6_spreadFrom : GoodIn wsX8_first (wsV RX8 220 RX6 yX6_spreadFrom wsX6_spreadFrom) := goodIn_app (goodIn_of _ (by decide +kernel)) ggX8_first_X6_spreadFrom
set_option maxRecDepth 20000 in
theorem ggX8_first_X6_nextFrom : GoodIn wsX8_first wsX6_nextFrom := goodIn_r _ [99, 90, 82, 7, 83, 84, 53, 44, 54, 129, 130] (by decide +kernel) (by decide +kernel)
set_option maxRecDepth 20000 in
theorem gX8_first_X6_nextFrom : GoodIn wsX8_first (wsV RX8 227 RX6 yX6_nextFrom wsX6_nextFrom) := goodIn_app (goodIn_of _ (by decide +kernel)) ggX8_first_X6_nextFrom
theorem dX8_first_0 : decode cX8_first 0 = .ok (.iload_n 1, 1) := by decide +kernel
theorem dX8_first_1 : decode cX8_first 1 = .ok (.invokestatic 75, 3) := by decide +kernel
theorem dX8_first_4 : decode cX8_first 4 = .ok (.ifCond .eq 21, 3) := by decide +kernel
theorem dX8_first_7 : decode cX8_first 7 = .ok (.iload_n 2, 1) := by decide +kernel
theorem dX8_first_8 : decode cX8_first 8 = .ok (.invokestatic 75, 3) := by decide +kernel
theorem dX8_first_11 : decode cX8_first 11 = .ok (.ifCond .eq 14, 3) := by decide +kernel
theorem dX8_first_14 : decode cX8_first 14 = .ok (.iload_n 3, 1) := by decide +kernel
theorem dX8_first_15 : decode cX8_first 15 = .ok (.iconst 0, 1) := by decide +kernel
theorem dX8_first_16 : decode cX8_first 16 = .ok (.sipush 9999, 3) := by decide +kernel
theorem dX8_first_19 : decode cX8_first 19 = .ok (.invokestatic 79, 3) := by decide +kernel
theorem dX8_first_22 : decode cX8_first 22 = .ok (.ifCond .ne 10, 3) := by decide +kernel
theorem dX8_first_25 : decode cX8_first 25 = .ok (.aload_n 0, 1) := by decide +kernel
theorem dX8_first_26 : decode cX8_first 26 = .ok (.ldc 83, 2) := by decide +kernel
theorem dX8_first_28 : decode cX8_first 28 = .ok (.invokevirtual 84, 3) := by decide +kernel
theorem dX8_first_31 : decode cX8_first 31 = .ok (.ireturn, 1) := by decide +kernel
theorem dX8_first_32 : decode cX8_first 32 = .ok (.aload_n 0, 1) := by decide +kernel
theorem dX8_first_33 : decode cX8_first 33 = .ok (.invokevirtual 95, 3) := by decide +kernel
theorem dX8_first_36 : decode cX8_first 36 = .ok (.aload_n 0, 1) := by decide +kernel
theorem dX8_first_37 : decode cX8_first 37 = .ok (.getfield 64, 3) := by decide +kernel
theorem dX8_first_40 : decode cX8_first 40 = .ok (.aload_n 0, 1) := by decide +kernel
theorem dX8_first_41 : decode cX8_first 41 = .ok (.getfield 68, 3) := by decide +kernel
theorem dX8_first_44 : decode cX8_first 44 = .ok (.iload_n 2, 1) := by decide +kernel
theorem dX8_first_45 : decode cX8_first 45 = .ok (.iload_n 3, 1) := by decide +kernel
theorem dX8_first_46 : decode cX8_first 46 = .ok (.invokevirtual 220, 3) := by decide +kernel
theorem dX8_first_49 : decode cX8_first 49 = .ok (.aload_n 0, 1) := by decide +kernel
theorem dX8_first_50 : decode cX8_first 50 = .ok (.getfield 64, 3) := by decide +kernel
theorem dX8_first_53 : decode cX8_first 53 = .ok (.iload_n 1, 1) := by decide +kernel
theorem dX8_first_54 : decode cX8_first 54 = .ok (.invokevirtual 227, 3) := by decide +kernel
theorem dX8_first_57 : decode cX8_first 57 = .ok (.istore 4, 2) := by decide +kernel
theorem dX8_first_59 : decode cX8_first 59 = .ok (.iload 4, 2) := by decide +kernel
theorem dX8_first_61 : decode cX8_first 61 = .ok (.ifCond .ge 12, 3) := by decide +kernel
theorem dX8_first_64 : decode cX8_first 64 = .ok (.aload_n 0, 1) := by decide +kernel
theorem dX8_first_65 : decode cX8_first 65 = .ok (.ldc 208, 2) := by decide +kernel
theorem dX8_first_67 : decode cX8_first 67 = .ok (.invokevirtual 84, 3) := by decide +kernel
theorem dX8_first_70 : decode cX8_first 70 = .ok (.goto 5, 3) := by decide +kernel
theorem dX8_first_73 : decode cX8_first 73 = .ok (.iload 4, 2) := by decide +kernel
theorem dX8_first_75 : decode cX8_first 75 = .ok (.ireturn, 1) := by decide +kernel
set_option maxRecDepth 20000 in
theorem ggX8_hang_X8_within : GoodIn wsX8_hang wsX8_within := goodIn_r _ [5] (by decide +kernel) (by decide +kernel)
set_option maxRecDepth 20000 in
theorem gX8_hang_X8_within : GoodIn wsX8_hang (va_wsS RX8 79 yX8_within wsX8_within) := goodIn_app (goodIn_of _ (by decide +kernel)) ggX8_hang_X8_within
set_option maxRecDepth 20000 in
theorem ggX8_hang_X8_bestChoice : GoodIn wsX8_hang wsX8_bestChoice := goodIn_r _ [9, 10, 11, 12, 13, 4, 14, 15, 16, 17, 18, 19, 20, 21, 22, 23, 24, 25, 26, 27, 28, 29, 30, 31, 32, 33, 34, 35, 36, 37, 38, 39, 40, 41, 42, 43, 44, 45, 46, 47, 48, 49, 50, 51, 52, 53, 54, 55, 56, 57, 58, 59, 60, 61, 3, 5, 62, 63, 64, 65, 66, 67, 68, 69, 70, 71, 72, 73, 74, 75, 76, 77, 78, 79, 80, 81, 82, 83, 84, 85, 86, 87, 88, 89, 90, 91, 92, 93, 94, 95, 96, 97, 98, 99, 100, 101, 102, 103, 104, 105, 106, 107, 108, 109, 110, 111, 112, 113, 114, 115, 116, 117, 118, 119, 120, 121, 127, 128, 129, 130, 131, 132, 133, 134, 135, 136, 137, 138, 139, 140, 141, 142, 143, 144, 145, 146, 147, 148, 149, 150, 151, 152, 153, 154, 155] (by decide +kernel) (by decide +kernel)
set_option maxRecDepth 20000 in
theorem gX8_hang_X8_bestChoice : GoodIn wsX8_hang (wsV RX8 230 RX8 yX8_bestChoice wsX8_bestChoice) := goodIn_app (goodIn_of _ (by decide +kernel)) ggX8_hang_X8_bestChoice
set_option maxRecDepth 20000 in
theorem ggX8_hang_X8_found : GoodIn wsX8_hang wsX8_found := goodIn_r _ [125, 1, 126, 2, 3, 4, 5, 127, 128, 129, 130, 131, 132, 133, 134, 135, 136, 137, 138] (by decide +kernel) (by decide +kernel)
set_option maxRecDepth 20000 in
theorem gX8_hang_X8_found : GoodIn wsX8_hang (wsV RX8 84 RX8 yX8_found wsX8_found) := goodIn_app (goodIn_of _ (by decide +kernel)) ggX8_hang_X8_found
theorem dX8_hang_0 : decode cX8_hang 0 = .ok (.iload_n 1, 1) := by decide +kernel
theorem dX8_hang_1 : decode cX8_hang 1 = .ok (.iconst 1, 1) := by decide +kernel
theorem dX8_hang_2 : decode cX8_hang 2 = .ok (.bipush 99, 2) := by decide +kernel
theorem dX8_hang_4 : decode cX8_hang 4 = .ok (.invokestatic 79, 3) := by decide +kernel
theorem dX8_hang_7 : decode cX8_hang 7 = .ok (.ifCond .eq 14, 3) := by decide +kernel
theorem dX8_hang_10 : decode cX8_hang 10 = .ok (.aload_n 0, 1) := by decide +kernel
theorem dX8_hang_11 : decode cX8_hang 11 = .ok (.iconst 0, 1) := by decide +kernel
theorem dX8_hang_12 : decode cX8_hang 12 = .ok (.iload_n 1, 1) := by decide +kernel
theorem dX8_hang_13 : decode cX8_hang 13 = .ok (.bipush 16, 2) := by decide +kernel
theorem dX8_hang_15 : decode cX8_hang 15 = .ok (.invokevirtual 230, 3) := by decide +kernel
theorem dX8_hang_18 : decode cX8_hang 18 = .ok (.goto 9, 3) := by decide +kernel
theorem dX8_hang_21 : decode cX8_hang 21 = .ok (.aload_n 0, 1) := by decide +kernel
theorem dX8_hang_22 : decode cX8_hang 22 = .ok (.ldc 83, 2) := by decide +kernel
theorem dX8_hang_24 : decode cX8_hang 24 = .ok (.invokevirtual 84, 3) := by decide +kernel
theorem dX8_hang_27 : decode cX8_hang 27 = .ok (.ireturn, 1) := by decide +kernel
set_option maxRecDepth 20000 in
theorem ggX8_meal_X7_hasBeing : GoodIn wsX8_meal wsX7_hasBeing := goodIn_r _ [9, 10, 129, 130, 131, 132, 133, 134, 135, 136, 137, 138, 139, 140] (by decide +kernel) (by decide +kernel)
set_option maxRecDepth 20000 in
theorem gX8_meal_X7_hasBeing : GoodIn wsX8_meal (wsV RX8 109 RX7 yX7_hasBeing wsX7_hasBeing) := goodIn_app (goodIn_of _ (by decide +kernel)) ggX8_meal_X7_hasBeing
set_option maxRecDepth 20000 in
theorem ggX8_meal_X7_hasTask : GoodIn wsX8_meal wsX7_hasTask := goodIn_r _ [14, 15, 129, 130, 131, 132, 133, 134, 135, 136, 137, 138, 139, 140] (by decide +kernel) (by decide +kernel)
set_option maxRecDepth 20000 in
theorem gX8_meal_X7_hasTask : GoodIn wsX8_meal (wsV RX8 163 RX7 yX7_hasTask wsX7_hasTask) := goodIn_app (goodIn_of _ (by decide +kernel)) ggX8_meal_X7_hasTask
set_option maxRecDepth 20000 in
theorem ggX8_meal_X8_found : GoodIn wsX8_meal wsX8_found := goodIn_r _ [20, 2, 21, 22, 23, 19, 24, 117, 118, 119, 120, 121, 122, 123, 124, 125, 126, 127, 128] (by decide +kernel) (by decide +kernel)
set_option maxRecDepth 20000 in
theorem gX8_meal_X8_found : GoodIn wsX8_meal (wsV RX8 84 RX8 yX8_found wsX8_found) := goodIn_app (goodIn_of _ (by decide +kernel)) ggX8_meal_X8_found
set_option maxRecDepth 20000 in
theorem ggX8_meal_X7_becomeAs : GoodIn wsX8_meal wsX7_becomeAs := goodIn_r _ [28, 29, 30, 31, 32, 33, 34, 10, 35, 36, 37, 38, 39, 15, 40, 41, 42, 129, 130, 131, 132, 133, 134, 135, 136, 137, 138, 139, 140] (by decide +kernel) (by decide +kernel)
set_option maxRecDepth 20000 in
theorem gX8_meal_X7_becomeAs : GoodIn wsX8_meal (wsV RX8 233 RX7 yX7_becomeAs wsX7_becomeAs) := goodIn_app (goodIn_of _ (by decide +kernel)) ggX8_meal_X7_becomeAs
set_option maxRecDepth 20000 in
theorem ggX8_meal_X7_feedBeing : GoodIn wsX8_meal wsX7_feedBeing := goodIn_r _ [46, 38, 39, 129, 130, 131, 132, 133, 134, 135, 136, 137, 138, 139, 140] (by decide +kernel) (by decide +kernel)
set_option maxRecDepth 20000 in
theorem gX8_meal_X7_feedBeing : GoodIn wsX8_meal (wsV RX8 145 RX7 yX7_feedBeing wsX7_feedBeing) := goodIn_app (goodIn_of _ (by decide +kernel)) ggX8_meal_X7_feedBeing
set_option maxRecDepth 20000 in
theorem ggX8_meal_X8_isDone : GoodIn wsX8_meal wsX8_isDone := goodIn_r _ [50, 51, 52, 53, 54, 55, 56, 57, 58, 8, 59, 41, 29, 23, 19, 24, 60, 61, 62, 63, 64, 65, 66, 67, 68, 69, 70, 71, 72, 73, 74, 75, 76, 30, 77, 78, 79, 80, 81, 82, 83, 84, 36, 37, 85, 86, 87, 88, 89, 90, 91, 92, 93, 94, 95, 96, 97, 98, 99, 100, 39, 101, 102, 103, 104, 105, 106, 107, 108, 109, 110, 111, 112, 113, 114, 115, 116, 117, 118, 119, 120, 121, 122, 123, 124, 125, 126, 127, 128, 129, 130, 131, 132, 133, 134, 135, 136, 137, 138, 139, 140, 141, 142, 143, 144, 145] (by decide +kernel) (by decide +kernel)
set_option maxRecDepth 20000 in
theorem gX8_meal_X8_isDone : GoodIn wsX8_meal (wsV RX8 175 RX8 yX8_isDone wsX8_isDone) := goodIn_app (goodIn_of _ (by decide +kernel)) ggX8_meal_X8_isDone
theorem dX8_meal_0 : decode cX8_meal 0 = .ok (.aload_n 0, 1) := by decide +kernel
theorem dX8_meal_1 : decode cX8_meal 1 = .ok (.getfield 10, 3) := by decide +kernel
theorem dX8_meal_4 : decode cX8_meal 4 = .ok (.iload_n 1, 1) := by decide +kernel
theorem dX8_meal_5 : decode cX8_meal 5 = .ok (.invokevirtual 109, 3) := by decide +kernel
theorem dX8_meal_8 : decode cX8_meal 8 = .ok (.ifCond .eq 14, 3) := by decide +kernel
theorem dX8_meal_11 : decode cX8_meal 11 = .ok (.aload_n 0, 1) := by decide +kernel
theorem dX8_meal_12 : decode cX8_meal 12 = .ok (.getfield 10, 3) := by decide +kernel
theorem dX8_meal_15 : decode cX8_meal 15 = .ok (.iload_n 2, 1) := by decide +kernel
theorem dX8_meal_16 : decode cX8_meal 16 = .ok (.invokevirtual 163, 3) := by decide +kernel
theorem dX8_meal_19 : decode cX8_meal 19 = .ok (.ifCond .ne 10, 3) := by decide +kernel
theorem dX8_meal_22 : decode cX8_meal 22 = .ok (.aload_n 0, 1) := by decide +kernel
theorem dX8_meal_23 : decode cX8_meal 23 = .ok (.ldc 83, 2) := by decide +kernel
theorem dX8_meal_25 : decode cX8_meal 25 = .ok (.invokevirtual 84, 3) := by decide +kernel
theorem dX8_meal_28 : decode cX8_meal 28 = .ok (.ireturn, 1) := by decide +kernel
theorem dX8_meal_29 : decode cX8_meal 29 = .ok (.aload_n 0, 1) := by decide +kernel
theorem dX8_meal_30 : decode cX8_meal 30 = .ok (.getfield 19, 3) := by decide +kernel
theorem dX8_meal_33 : decode cX8_meal 33 = .ok (.aload_n 0, 1) := by decide +kernel
theorem dX8_meal_34 : decode cX8_meal 34 = .ok (.getfield 10, 3) := by decide +kernel
theorem dX8_meal_37 : decode cX8_meal 37 = .ok (.invokevirtual 233, 3) := by decide +kernel
theorem dX8_meal_40 : decode cX8_meal 40 = .ok (.iconst 0, 1) := by decide +kernel
theorem dX8_meal_41 : decode cX8_meal 41 = .ok (.istore_n 3, 1) := by decide +kernel
theorem dX8_meal_42 : decode cX8_meal 42 = .ok (.iload_n 3, 1) := by decide +kernel
theorem dX8_meal_43 : decode cX8_meal 43 = .ok (.bipush 99, 2) := by decide +kernel
theorem dX8_meal_45 : decode cX8_meal 45 = .ok (.if_icmp .gt 32, 3) := by decide +kernel
theorem dX8_meal_48 : decode cX8_meal 48 = .ok (.aload_n 0, 1) := by decide +kernel
theorem dX8_meal_49 : decode cX8_meal 49 = .ok (.getfield 19, 3) := by decide +kernel
theorem dX8_meal_52 : decode cX8_meal 52 = .ok (.iload_n 1, 1) := by decide +kernel
theorem dX8_meal_53 : decode cX8_meal 53 = .ok (.iload_n 3, 1) := by decide +kernel
theorem dX8_meal_54 : decode cX8_meal 54 = .ok (.invokevirtual 145, 3) := by decide +kernel
theorem dX8_meal_57 : decode cX8_meal 57 = .ok (.aload_n 0, 1) := by decide +kernel
theorem dX8_meal_58 : decode cX8_meal 58 = .ok (.aload_n 0, 1) := by decide +kernel
theorem dX8_meal_59 : decode cX8_meal 59 = .ok (.getfield 19, 3) := by decide +kernel
theorem dX8_meal_62 : decode cX8_meal 62 = .ok (.iload_n 2, 1) := by decide +kernel
theorem dX8_meal_63 : decode cX8_meal 63 = .ok (.invokevirtual 175, 3) := by decide +kernel
theorem dX8_meal_66 : decode cX8_meal 66 = .ok (.ifCond .eq 5, 3) := by decide +kernel
theorem dX8_meal_69 : decode cX8_meal 69 = .ok (.iload_n 3, 1) := by decide +kernel
theorem dX8_meal_70 : decode cX8_meal 70 = .ok (.ireturn, 1) := by decide +kernel
theorem dX8_meal_71 : decode cX8_meal 71 = .ok (.iinc 3 1, 3) := by decide +kernel
theorem dX8_meal_74 : decode cX8_meal 74 = .ok (.goto (-32), 3) := by decide +kernel
theorem dX8_meal_77 : decode cX8_meal 77 = .ok (.aload_n 0, 1) := by decide +kernel
theorem dX8_meal_78 : decode cX8_meal 78 = .ok (.ldc 208, 2) := by decide +kernel
theorem dX8_meal_80 : decode cX8_meal 80 = .ok (.invokevirtual 84, 3) := by decide +kernel
theorem dX8_meal_83 : decode cX8_meal 83 = .ok (.ireturn, 1) := by decide +kernel
set_option maxRecDepth 20000 in
theorem ggX8_needed_X8_doneSet : GoodIn wsX8_needed wsX8_doneSet := goodIn_r _ [9, 10, 11, 12, 13, 8, 14, 15, 16, 17, 18, 19, 20, 21, 22, 23, 24, 25, 26, 27, 28, 29, 30, 31, 32, 33, 34, 35, 36, 37, 38, 39, 40, 41, 42, 43, 44, 45, 46, 47, 48, 49, 50, 51, 52, 53, 54, 55, 56, 57, 58, 59, 60, 61, 62, 63, 64, 65, 66, 67, 68, 69, 70, 71, 72, 73, 74, 75, 76, 77, 78, 79, 80, 81, 82, 83, 84, 85, 86, 87, 88, 89, 135, 136, 137, 138, 139, 140, 141, 142, 143, 144, 145, 146, 123, 124, 125, 126, 127, 128, 129, 130, 131, 132, 133, 134, 147, 148, 149, 150, 151] (by decide +kernel) (by decide +kernel)
set_option maxRecDepth 20000 in
theorem gX8_needed_X8_doneSet : GoodIn wsX8_needed (wsV RX8 201 RX8 yX8_doneSet wsX8_doneSet) := goodIn_app (goodIn_of _ (by decide +kernel)) ggX8_needed_X8_doneSet
set_option maxRecDepth 20000 in
theorem ggX8_needed_J6_bitCount_0f7a4 : GoodIn wsX8_needed wsJ6_bitCount_0f7a4 := goodIn_r _ [93, 94, 95, 96] (by decide +kernel) (by decide +kernel)
set_option maxRecDepth 20000 in
theorem gX8_needed_J6_bitCount_0f7a4 : GoodIn wsX8_needed (va_wsS RX8 237 yJ6_bitCount_0f7a4 wsJ6_bitCount_0f7a4) := goodIn_app (goodIn_of _ (by decide +kernel)) ggX8_needed_J6_bitCount_0f7a4
set_option maxRecDepth 20000 in
theorem ggX8_needed_X8_tryWithout : GoodIn wsX8_needed wsX8_tryWithout := goodIn_r _ [100, 3, 1, 101, 102, 103, 104, 23, 105, 26, 46, 106, 107, 108, 109, 110, 111, 55, 56, 112, 73, 113, 114, 25, 115, 123, 124, 125, 126, 127, 128, 129, 130, 131, 132, 133, 134, 135, 136, 137, 138, 139, 140, 141, 142, 143, 144, 145, 146] (by decide +kernel) (by decide +kernel)
set_option maxRecDepth 20000 in
theorem gX8_needed_X8_tryWithout : GoodIn wsX8_needed (wsV RX8 242 RX8 yX8_tryWithout wsX8_tryWithout) := goodIn_app (goodIn_of _ (by decide +kernel)) ggX8_needed_X8_tryWithout
set_option maxRecDepth 20000 in
theorem ggX8_needed_X8_found : GoodIn wsX8_needed wsX8_found := goodIn_r _ [119, 120, 121, 122, 27, 8, 28, 123, 124, 125, 126, 127, 128, 129, 130, 131, 132, 133, 134] (by decide +kernel) (by decide +kernel)
set_option maxRecDepth 20000 in
theorem gX8_needed_X8_found : GoodIn wsX8_needed (wsV RX8 84 RX8 yX8_found wsX8_found) := goodIn_app (goodIn_of _ (by decide +kernel)) ggX8_needed_X8_found
theorem dX8_needed_0 : decode cX8_needed 0 = .ok (.iconst (-1), 1) := by decide +kernel
theorem dX8_needed_1 : decode cX8_needed 1 = .ok (.istore_n 1, 1) := by decide +kernel
theorem dX8_needed_2 : decode cX8_needed 2 = .ok (.aload_n 0, 1) := by decide +kernel
theorem dX8_needed_3 : decode cX8_needed 3 = .ok (.aload_n 0, 1) := by decide +kernel
theorem dX8_needed_4 : decode cX8_needed 4 = .ok (.getfield 10, 3) := by decide +kernel
theorem dX8_needed_7 : decode cX8_needed 7 = .ok (.invokevirtual 201, 3) := by decide +kernel
theorem dX8_needed_10 : decode cX8_needed 10 = .ok (.invokestatic 237, 3) := by decide +kernel
theorem dX8_needed_13 : decode cX8_needed 13 = .ok (.istore_n 2, 1) := by decide +kernel
theorem dX8_needed_14 : decode cX8_needed 14 = .ok (.iconst 0, 1) := by decide +kernel
theorem dX8_needed_15 : decode cX8_needed 15 = .ok (.istore_n 3, 1) := by decide +kernel
theorem dX8_needed_16 : decode cX8_needed 16 = .ok (.iload_n 3, 1) := by decide +kernel
theorem dX8_needed_17 : decode cX8_needed 17 = .ok (.aload_n 0, 1) := by decide +kernel
theorem dX8_needed_18 : decode cX8_needed 18 = .ok (.getfield 10, 3) := by decide +kernel
theorem dX8_needed_21 : decode cX8_needed 21 = .ok (.getfield 101, 3) := by decide +kernel
theorem dX8_needed_24 : decode cX8_needed 24 = .ok (.if_icmp .ge 38, 3) := by decide +kernel
theorem dX8_needed_27 : decode cX8_needed 27 = .ok (.aload_n 0, 1) := by decide +kernel
theorem dX8_needed_28 : decode cX8_needed 28 = .ok (.iload_n 3, 1) := by decide +kernel
theorem dX8_needed_29 : decode cX8_needed 29 = .ok (.invokevirtual 242, 3) := by decide +kernel
theorem dX8_needed_32 : decode cX8_needed 32 = .ok (.aload_n 0, 1) := by decide +kernel
theorem dX8_needed_33 : decode cX8_needed 33 = .ok (.aload_n 0, 1) := by decide +kernel
theorem dX8_needed_34 : decode cX8_needed 34 = .ok (.getfield 19, 3) := by decide +kernel
theorem dX8_needed_37 : decode cX8_needed 37 = .ok (.invokevirtual 201, 3) := by decide +kernel
theorem dX8_needed_40 : decode cX8_needed 40 = .ok (.invokestatic 237, 3) := by decide +kernel
theorem dX8_needed_43 : decode cX8_needed 43 = .ok (.istore 4, 2) := by decide +kernel
theorem dX8_needed_45 : decode cX8_needed 45 = .ok (.iload 4, 2) := by decide +kernel
theorem dX8_needed_47 : decode cX8_needed 47 = .ok (.iload_n 2, 1) := by decide +kernel
theorem dX8_needed_48 : decode cX8_needed 48 = .ok (.if_icmp .ge 8, 3) := by decide +kernel
theorem dX8_needed_51 : decode cX8_needed 51 = .ok (.iload 4, 2) := by decide +kernel
theorem dX8_needed_53 : decode cX8_needed 53 = .ok (.istore_n 2, 1) := by decide +kernel
theorem dX8_needed_54 : decode cX8_needed 54 = .ok (.iload_n 3, 1) := by decide +kernel
theorem dX8_needed_55 : decode cX8_needed 55 = .ok (.istore_n 1, 1) := by decide +kernel
theorem dX8_needed_56 : decode cX8_needed 56 = .ok (.iinc 3 1, 3) := by decide +kernel
theorem dX8_needed_59 : decode cX8_needed 59 = .ok (.goto (-43), 3) := by decide +kernel
theorem dX8_needed_62 : decode cX8_needed 62 = .ok (.iload_n 1, 1) := by decide +kernel
theorem dX8_needed_63 : decode cX8_needed 63 = .ok (.ifCond .ge 12, 3) := by decide +kernel
theorem dX8_needed_66 : decode cX8_needed 66 = .ok (.aload_n 0, 1) := by decide +kernel
theorem dX8_needed_67 : decode cX8_needed 67 = .ok (.ldc 208, 2) := by decide +kernel
theorem dX8_needed_69 : decode cX8_needed 69 = .ok (.invokevirtual 84, 3) := by decide +kernel
theorem dX8_needed_72 : decode cX8_needed 72 = .ok (.goto 4, 3) := by decide +kernel
theorem dX8_needed_75 : decode cX8_needed 75 = .ok (.iload_n 1, 1) := by decide +kernel
theorem dX8_needed_76 : decode cX8_needed 76 = .ok (.ireturn, 1) := by decide +kernel
set_option maxRecDepth 20000 in
theorem ggX8_whom_X7_hasTask : GoodIn wsX8_whom wsX7_hasTask := goodIn_r _ [9, 10, 126, 127, 128, 129, 130, 131, 132, 133, 134, 135, 136, 137] (by decide +kernel) (by decide +kernel)
set_option maxRecDepth 20000 in
theorem gX8_whom_X7_hasTask : GoodIn wsX8_whom (wsV RX8 163 RX7 yX7_hasTask wsX7_hasTask) := goodIn_app (goodIn_of _ (by decide +kernel)) ggX8_whom_X7_hasTask
set_option maxRecDepth 20000 in
theorem ggX8_whom_X8_found : GoodIn wsX8_whom wsX8_found := goodIn_r _ [15, 2, 16, 17, 18, 14, 19, 114, 115, 116, 117, 118, 119, 120, 121, 122, 123, 124, 125] (by decide +kernel) (by decide +kernel)
set_option maxRecDepth 20000 in
theorem gX8_whom_X8_found : GoodIn wsX8_whom (wsV RX8 84 RX8 yX8_found wsX8_found) := goodIn_app (goodIn_of _ (by decide +kernel)) ggX8_whom_X8_found
set_option maxRecDepth 20000 in
theorem ggX8_whom_X8_isDone : GoodIn wsX8_whom wsX8_isDone := goodIn_r _ [23, 24, 25, 26, 27, 28, 29, 30, 31, 8, 32, 33, 34, 18, 14, 19, 35, 36, 37, 38, 39, 40, 41, 42, 43, 44, 45, 46, 47, 48, 49, 50, 51, 52, 53, 54, 55, 56, 57, 58, 59, 60, 61, 62, 63, 64, 65, 66, 67, 68, 69, 70, 71, 72, 73, 74, 75, 76, 77, 78, 79, 80, 81, 82, 83, 84, 85, 86, 87, 88, 89, 90, 91, 92, 93, 94, 95, 114, 115, 116, 117, 118, 119, 120, 121, 122, 123, 124, 125, 126, 127, 128, 129, 130, 131, 132, 133, 134, 135, 136, 137, 138, 139, 140, 141, 142] (by decide +kernel) (by decide +kernel)
set_option maxRecDepth 20000 in
theorem gX8_whom_X8_isDone : GoodIn wsX8_whom (wsV RX8 175 RX8 yX8_isDone wsX8_isDone) := goodIn_app (goodIn_of _ (by decide +kernel)) ggX8_whom_X8_isDone
set_option maxRecDepth 20000 in
theorem ggX8_whom_X8_tryWithout : GoodIn wsX8_whom wsX8_tryWithout := goodIn_r _ [99, 4, 1, 100, 101, 102, 103, 8, 104, 34, 52, 105, 106, 107, 108, 109, 110, 61, 62, 111, 79, 10, 112, 33, 113, 114, 115, 116, 117, 118, 119, 120, 121, 122, 123, 124, 125, 126, 127, 128, 129, 130, 131, 132, 133, 134, 135, 136, 137] (by decide +kernel) (by decide +kernel)
set_option maxRecDepth 20000 in
theorem gX8_whom_X8_tryWithout : GoodIn wsX8_whom (wsV RX8 242 RX8 yX8_tryWithout wsX8_tryWithout) := goodIn_app (goodIn_of _ (by decide +kernel)) ggX8_whom_X8_tryWithout
theorem dX8_whom_0 : decode cX8_whom 0 = .ok (.aload_n 0, 1) := by decide +kernel
theorem dX8_whom_1 : decode cX8_whom 1 = .ok (.getfield 10, 3) := by decide +kernel
theorem dX8_whom_4 : decode cX8_whom 4 = .ok (.iload_n 1, 1) := by decide +kernel
theorem dX8_whom_5 : decode cX8_whom 5 = .ok (.invokevirtual 163, 3) := by decide +kernel
theorem dX8_whom_8 : decode cX8_whom 8 = .ok (.ifCond .ne 10, 3) := by decide +kernel
theorem dX8_whom_11 : decode cX8_whom 11 = .ok (.aload_n 0, 1) := by decide +kernel
theorem dX8_whom_12 : decode cX8_whom 12 = .ok (.ldc 83, 2) := by decide +kernel
theorem dX8_whom_14 : decode cX8_whom 14 = .ok (.invokevirtual 84, 3) := by decide +kernel
theorem dX8_whom_17 : decode cX8_whom 17 = .ok (.ireturn, 1) := by decide +kernel
theorem dX8_whom_18 : decode cX8_whom 18 = .ok (.iconst 0, 1) := by decide +kernel
theorem dX8_whom_19 : decode cX8_whom 19 = .ok (.istore_n 2, 1) := by decide +kernel
theorem dX8_whom_20 : decode cX8_whom 20 = .ok (.aload_n 0, 1) := by decide +kernel
theorem dX8_whom_21 : decode cX8_whom 21 = .ok (.aload_n 0, 1) := by decide +kernel
theorem dX8_whom_22 : decode cX8_whom 22 = .ok (.getfield 10, 3) := by decide +kernel
theorem dX8_whom_25 : decode cX8_whom 25 = .ok (.iload_n 1, 1) := by decide +kernel
theorem dX8_whom_26 : decode cX8_whom 26 = .ok (.invokevirtual 175, 3) := by decide +kernel
theorem dX8_whom_29 : decode cX8_whom 29 = .ok (.ifCond .eq 45, 3) := by decide +kernel
theorem dX8_whom_32 : decode cX8_whom 32 = .ok (.iconst 0, 1) := by decide +kernel
theorem dX8_whom_33 : decode cX8_whom 33 = .ok (.istore_n 3, 1) := by decide +kernel
theorem dX8_whom_34 : decode cX8_whom 34 = .ok (.iload_n 3, 1) := by decide +kernel
theorem dX8_whom_35 : decode cX8_whom 35 = .ok (.aload_n 0, 1) := by decide +kernel
theorem dX8_whom_36 : decode cX8_whom 36 = .ok (.getfield 10, 3) := by decide +kernel
theorem dX8_whom_39 : decode cX8_whom 39 = .ok (.getfield 101, 3) := by decide +kernel
theorem dX8_whom_42 : decode cX8_whom 42 = .ok (.if_icmp .ge 32, 3) := by decide +kernel
theorem dX8_whom_45 : decode cX8_whom 45 = .ok (.aload_n 0, 1) := by decide +kernel
theorem dX8_whom_46 : decode cX8_whom 46 = .ok (.iload_n 3, 1) := by decide +kernel
theorem dX8_whom_47 : decode cX8_whom 47 = .ok (.invokevirtual 242, 3) := by decide +kernel
theorem dX8_whom_50 : decode cX8_whom 50 = .ok (.aload_n 0, 1) := by decide +kernel
theorem dX8_whom_51 : decode cX8_whom 51 = .ok (.aload_n 0, 1) := by decide +kernel
theorem dX8_whom_52 : decode cX8_whom 52 = .ok (.getfield 19, 3) := by decide +kernel
theorem dX8_whom_55 : decode cX8_whom 55 = .ok (.iload_n 1, 1) := by decide +kernel
theorem dX8_whom_56 : decode cX8_whom 56 = .ok (.invokevirtual 175, 3) := by decide +kernel
theorem dX8_whom_59 : decode cX8_whom 59 = .ok (.ifCond .ne 9, 3) := by decide +kernel
theorem dX8_whom_62 : decode cX8_whom 62 = .ok (.iload_n 2, 1) := by decide +kernel
theorem dX8_whom_63 : decode cX8_whom 63 = .ok (.iconst 1, 1) := by decide +kernel
theorem dX8_whom_64 : decode cX8_whom 64 = .ok (.iload_n 3, 1) := by decide +kernel
theorem dX8_whom_65 : decode cX8_whom 65 = .ok (.ishl, 1) := by decide +kernel
theorem dX8_whom_66 : decode cX8_whom 66 = .ok (.ior, 1) := by decide +kernel
theorem dX8_whom_67 : decode cX8_whom 67 = .ok (.istore_n 2, 1) := by decide +kernel
theorem dX8_whom_68 : decode cX8_whom 68 = .ok (.iinc 3 1, 3) := by decide +kernel
theorem dX8_whom_71 : decode cX8_whom 71 = .ok (.goto (-37), 3) := by decide +kernel
theorem dX8_whom_74 : decode cX8_whom 74 = .ok (.iload_n 2, 1) := by decide +kernel
theorem dX8_whom_75 : decode cX8_whom 75 = .ok (.ireturn, 1) := by decide +kernel
set_option maxRecDepth 20000 in
theorem ggX8_goal_X7_hasBeing : GoodIn wsX8_goal wsX7_hasBeing := goodIn_r _ [7, 8, 143, 144, 145, 146, 147, 148, 149, 150, 151, 152, 153, 154] (by decide +kernel) (by decide +kernel)
set_option maxRecDepth 20000 in
theorem gX8_goal_X7_hasBeing : GoodIn wsX8_goal (wsV RX8 109 RX7 yX7_hasBeing wsX7_hasBeing) := goodIn_app (goodIn_of _ (by decide +kernel)) ggX8_goal_X7_hasBeing
set_option maxRecDepth 20000 in
theorem ggX8_goal_X8_bestChoice : GoodIn wsX8_goal wsX8_bestChoice := goodIn_r _ [13, 14, 15, 16, 17, 12, 18, 1, 19, 20, 21, 22, 23, 24, 25, 26, 27, 28, 6, 29, 30, 31, 32, 33, 34, 35, 8, 36, 37, 38, 39, 40, 41, 42, 43, 44, 45, 46, 47, 48, 49, 50, 51, 52, 53, 54, 55, 56, 57, 58, 59, 60, 61, 62, 63, 64, 65, 66, 67, 68, 69, 70, 71, 72, 73, 74, 75, 76, 77, 78, 79, 80, 81, 82, 83, 84, 85, 86, 87, 88, 89, 90, 91, 92, 93, 94, 95, 96, 97, 98, 99, 100, 101, 102, 103, 104, 105, 106, 107, 108, 109, 110, 111, 112, 113, 114, 115, 116, 117, 118, 119, 120, 121, 122, 123, 124, 131, 132, 133, 134, 135, 136, 137, 138, 139, 140, 141, 142, 143, 144, 145, 146, 147, 148, 149, 150, 151, 152, 153, 154, 155, 156, 157, 158, 159] (by decide +kernel) (by decide +kernel)
set_option maxRecDepth 20000 in
theorem gX8_goal_X8_bestChoice : GoodIn wsX8_goal (wsV RX8 230 RX8 yX8_bestChoice wsX8_bestChoice) := goodIn_app (goodIn_of _ (by decide +kernel)) ggX8_goal_X8_bestChoice
set_option maxRecDepth 20000 in
theorem ggX8_goal_X8_found : GoodIn wsX8_goal wsX8_found := goodIn_r _ [128, 2, 129, 130, 63, 12, 64, 131, 132, 133, 134, 135, 136, 137, 138, 139, 140, 141, 142] (by decide +kernel) (by decide +kernel)
set_option maxRecDepth 20000 in
theorem gX8_goal_X8_found : GoodIn wsX8_goal (wsV RX8 84 RX8 yX8_found wsX8_found) := goodIn_app (goodIn_of _ (by decide +kernel)) ggX8_goal_X8_found
theorem dX8_goal_0 : decode cX8_goal 0 = .ok (.aload_n 0, 1) := by decide +kernel
theorem dX8_goal_1 : decode cX8_goal 1 = .ok (.getfield 10, 3) := by decide +kernel
theorem dX8_goal_4 : decode cX8_goal 4 = .ok (.iload_n 1, 1) := by decide +kernel
theorem dX8_goal_5 : decode cX8_goal 5 = .ok (.invokevirtual 109, 3) := by decide +kernel
theorem dX8_goal_8 : decode cX8_goal 8 = .ok (.ifCond .eq 14, 3) := by decide +kernel
theorem dX8_goal_11 : decode cX8_goal 11 = .ok (.aload_n 0, 1) := by decide +kernel
theorem dX8_goal_12 : decode cX8_goal 12 = .ok (.iconst 1, 1) := by decide +kernel
theorem dX8_goal_13 : decode cX8_goal 13 = .ok (.iload_n 1, 1) := by decide +kernel
theorem dX8_goal_14 : decode cX8_goal 14 = .ok (.bipush 16, 2) := by decide +kernel
theorem dX8_goal_16 : decode cX8_goal 16 = .ok (.invokevirtual 230, 3) := by decide +kernel
theorem dX8_goal_19 : decode cX8_goal 19 = .ok (.goto 9, 3) := by decide +kernel
theorem dX8_goal_22 : decode cX8_goal 22 = .ok (.aload_n 0, 1) := by decide +kernel
theorem dX8_goal_23 : decode cX8_goal 23 = .ok (.ldc 83, 2) := by decide +kernel
theorem dX8_goal_25 : decode cX8_goal 25 = .ok (.invokevirtual 84, 3) := by decide +kernel
theorem dX8_goal_28 : decode cX8_goal 28 = .ok (.ireturn, 1) := by decide +kernel
set_option maxRecDepth 20000 in
theorem ggX8_kind_X7_hasBeing : GoodIn wsX8_kind wsX7_hasBeing := goodIn_r _ [7, 8, 143, 144, 145, 146, 147, 148, 149, 150, 151, 152, 153, 154] (by decide +kernel) (by decide +kernel)
set_option maxRecDepth 20000 in
theorem gX8_kind_X7_hasBeing : GoodIn wsX8_kind (wsV RX8 109 RX7 yX7_hasBeing wsX7_hasBeing) := goodIn_app (goodIn_of _ (by decide +kernel)) ggX8_kind_X7_hasBeing
set_option maxRecDepth 20000 in
theorem ggX8_kind_X8_bestChoice : GoodIn wsX8_kind wsX8_bestChoice := goodIn_r _ [13, 14, 15, 16, 17, 12, 18, 1, 19, 20, 21, 22, 23, 24, 25, 26, 27, 28, 6, 29, 30, 31, 32, 33, 34, 35, 8, 36, 37, 38, 39, 40, 41, 42, 43, 44, 45, 46, 47, 48, 49, 50, 51, 52, 53, 54, 55, 56, 57, 58, 59, 60, 61, 62, 63, 64, 65, 66, 67, 68, 69, 70, 71, 72, 73, 74, 75, 76, 77, 78, 79, 80, 81, 82, 83, 84, 85, 86, 87, 88, 89, 90, 91, 92, 93, 94, 95, 96, 97, 98, 99, 100, 101, 102, 103, 104, 105, 106, 107, 108, 109, 110, 111, 112, 113, 114, 115, 116, 117, 118, 119, 120, 121, 122, 123, 124, 131, 132, 133, 134, 135, 136, 137, 138, 139, 140, 141, 142, 143, 144, 145, 146, 147, 148, 149, 150, 151, 152, 153, 154, 155, 156, 157, 158, 159] (by decide +kernel) (by decide +kernel)
set_option maxRecDepth 20000 in
theorem gX8_kind_X8_bestChoice : GoodIn wsX8_kind (wsV RX8 230 RX8 yX8_bestChoice wsX8_bestChoice) := goodIn_app (goodIn_of _ (by decide +kernel)) ggX8_kind_X8_bestChoice
set_option maxRecDepth 20000 in
theorem ggX8_kind_X8_found : GoodIn wsX8_kind wsX8_found := goodIn_r _ [128, 2, 129, 130, 63, 12, 64, 131, 132, 133, 134, 135, 136, 137, 138, 139, 140, 141, 142] (by decide +kernel) (by decide +kernel)
set_option maxRecDepth 20000 in
theorem gX8_kind_X8_found : GoodIn wsX8_kind (wsV RX8 84 RX8 yX8_found wsX8_found) := goodIn_app (goodIn_of _ (by decide +kernel)) ggX8_kind_X8_found
theorem dX8_kind_0 : decode cX8_kind 0 = .ok (.aload_n 0, 1) := by decide +kernel
theorem dX8_kind_1 : decode cX8_kind 1 = .ok (.getfield 10, 3) := by decide +kernel
theorem dX8_kind_4 : decode cX8_kind 4 = .ok (.iload_n 1, 1) := by decide +kernel
theorem dX8_kind_5 : decode cX8_kind 5 = .ok (.invokevirtual 109, 3) := by decide +kernel
theorem dX8_kind_8 : decode cX8_kind 8 = .ok (.ifCond .eq 14, 3) := by decide +kernel
theorem dX8_kind_11 : decode cX8_kind 11 = .ok (.aload_n 0, 1) := by decide +kernel
theorem dX8_kind_12 : decode cX8_kind 12 = .ok (.iconst 2, 1) := by decide +kernel
theorem dX8_kind_13 : decode cX8_kind 13 = .ok (.iload_n 1, 1) := by decide +kernel
theorem dX8_kind_14 : decode cX8_kind 14 = .ok (.bipush 6, 2) := by decide +kernel
theorem dX8_kind_16 : decode cX8_kind 16 = .ok (.invokevirtual 230, 3) := by decide +kernel
theorem dX8_kind_19 : decode cX8_kind 19 = .ok (.goto 9, 3) := by decide +kernel
theorem dX8_kind_22 : decode cX8_kind 22 = .ok (.aload_n 0, 1) := by decide +kernel
theorem dX8_kind_23 : decode cX8_kind 23 = .ok (.ldc 83, 2) := by decide +kernel
theorem dX8_kind_25 : decode cX8_kind 25 = .ok (.invokevirtual 84, 3) := by decide +kernel
theorem dX8_kind_28 : decode cX8_kind 28 = .ok (.ireturn, 1) := by decide +kernel
set_option maxRecDepth 20000 in
theorem ggX8_fasted_X7_hasBeing : GoodIn wsX8_fasted wsX7_hasBeing := goodIn_r _ [11, 12, 113, 114, 115, 116, 117, 118, 119, 120, 121, 122, 123, 124] (by decide +kernel) (by decide +kernel)
set_option maxRecDepth 20000 in
theorem gX8_fasted_X7_hasBeing : GoodIn wsX8_fasted (wsV RX8 109 RX7 yX7_hasBeing wsX7_hasBeing) := goodIn_app (goodIn_of _ (by decide +kernel)) ggX8_fasted_X7_hasBeing
set_option maxRecDepth 20000 in
theorem ggX8_fasted_X8_isPlace : GoodIn wsX8_fasted wsX8_isPlace := goodIn_r _ [16, 17, 18, 15, 19] (by decide +kernel) (by decide +kernel)
set_option maxRecDepth 20000 in
theorem gX8_fasted_X8_isPlace : GoodIn wsX8_fasted (va_wsS RX8 75 yX8_isPlace wsX8_isPlace) := goodIn_app (goodIn_of _ (by decide +kernel)) ggX8_fasted_X8_isPlace
set_option maxRecDepth 20000 in
theorem ggX8_fasted_X8_found : GoodIn wsX8_fasted wsX8_found := goodIn_r _ [23, 2, 24, 17, 18, 15, 19, 101, 102, 103, 104, 105, 106, 107, 108, 109, 110, 111, 112] (by decide +kernel) (by decide +kernel)
set_option maxRecDepth 20000 in
theorem gX8_fasted_X8_found : GoodIn wsX8_fasted (wsV RX8 84 RX8 yX8_found wsX8_found) := goodIn_app (goodIn_of _ (by decide +kernel)) ggX8_fasted_X8_found
set_option maxRecDepth 20000 in
theorem ggX8_fasted_X7_becomeAs : GoodIn wsX8_fasted wsX7_becomeAs := goodIn_r _ [28, 29, 30, 31, 32, 33, 34, 12, 35, 36, 37, 38, 39, 40, 41, 42, 43, 113, 114, 115, 116, 117, 118, 119, 120, 121, 122, 123, 124] (by decide +kernel) (by decide +kernel)
set_option maxRecDepth 20000 in
theorem gX8_fasted_X7_becomeAs : GoodIn wsX8_fasted (wsV RX8 233 RX7 yX7_becomeAs wsX7_becomeAs) := goodIn_app (goodIn_of _ (by decide +kernel)) ggX8_fasted_X7_becomeAs
set_option maxRecDepth 20000 in
theorem ggX8_fasted_X0_settleOn : GoodIn wsX8_fasted wsX0_settleOn := goodIn_r _ [48, 49, 50, 51, 52, 53, 54, 55, 56, 57, 58, 59, 10, 60, 30, 61, 62, 63, 64, 65, 66, 67, 68, 36, 37, 69, 70, 71, 72, 15, 73, 74, 75, 76, 77, 78, 79, 80, 81, 82, 83, 84, 39, 85, 86, 87, 47, 88, 89, 113, 114, 115, 116, 117, 118, 119, 120, 121, 122, 123, 124, 125, 126, 127, 128, 129] (by decide +kernel) (by decide +kernel)
set_option maxRecDepth 20000 in
theorem gX8_fasted_X0_settleOn : GoodIn wsX8_fasted (wsV RX8 149 RX0 yX0_settleOn wsX0_settleOn) := goodIn_app (goodIn_of _ (by decide +kernel)) ggX8_fasted_X0_settleOn
set_option maxRecDepth 20000 in
theorem ggX8_fasted_X0_lightOf : GoodIn wsX8_fasted wsX0_lightOf := goodIn_r _ [93, 51, 50, 94, 95, 96, 47, 97, 55, 53, 98, 15, 99, 100, 70, 63, 71, 125, 126, 127, 128, 129] (by decide +kernel) (by decide +kernel)
set_option maxRecDepth 20000 in
theorem gX8_fasted_X0_lightOf : GoodIn wsX8_fasted (wsV RX8 245 RX0 yX0_lightOf wsX0_lightOf) := goodIn_app (goodIn_of _ (by decide +kernel)) ggX8_fasted_X0_lightOf
theorem dX8_fasted_0 : decode cX8_fasted 0 = .ok (.aload_n 0, 1) := by decide +kernel
theorem dX8_fasted_1 : decode cX8_fasted 1 = .ok (.getfield 10, 3) := by decide +kernel
theorem dX8_fasted_4 : decode cX8_fasted 4 = .ok (.iload_n 1, 1) := by decide +kernel
theorem dX8_fasted_5 : decode cX8_fasted 5 = .ok (.invokevirtual 109, 3) := by decide +kernel
theorem dX8_fasted_8 : decode cX8_fasted 8 = .ok (.ifCond .eq 10, 3) := by decide +kernel
theorem dX8_fasted_11 : decode cX8_fasted 11 = .ok (.iload_n 2, 1) := by decide +kernel
theorem dX8_fasted_12 : decode cX8_fasted 12 = .ok (.invokestatic 75, 3) := by decide +kernel
theorem dX8_fasted_15 : decode cX8_fasted 15 = .ok (.ifCond .ne 10, 3) := by decide +kernel
theorem dX8_fasted_18 : decode cX8_fasted 18 = .ok (.aload_n 0, 1) := by decide +kernel
theorem dX8_fasted_19 : decode cX8_fasted 19 = .ok (.ldc 83, 2) := by decide +kernel
theorem dX8_fasted_21 : decode cX8_fasted 21 = .ok (.invokevirtual 84, 3) := by decide +kernel
theorem dX8_fasted_24 : decode cX8_fasted 24 = .ok (.ireturn, 1) := by decide +kernel
theorem dX8_fasted_25 : decode cX8_fasted 25 = .ok (.aload_n 0, 1) := by decide +kernel
theorem dX8_fasted_26 : decode cX8_fasted 26 = .ok (.getfield 19, 3) := by decide +kernel
theorem dX8_fasted_29 : decode cX8_fasted 29 = .ok (.aload_n 0, 1) := by decide +kernel
theorem dX8_fasted_30 : decode cX8_fasted 30 = .ok (.getfield 10, 3) := by decide +kernel
theorem dX8_fasted_33 : decode cX8_fasted 33 = .ok (.invokevirtual 233, 3) := by decide +kernel
theorem dX8_fasted_36 : decode cX8_fasted 36 = .ok (.iconst 0, 1) := by decide +kernel
theorem dX8_fasted_37 : decode cX8_fasted 37 = .ok (.istore 4, 2) := by decide +kernel
theorem dX8_fasted_39 : decode cX8_fasted 39 = .ok (.iload 4, 2) := by decide +kernel
theorem dX8_fasted_41 : decode cX8_fasted 41 = .ok (.bipush 99, 2) := by decide +kernel
theorem dX8_fasted_43 : decode cX8_fasted 43 = .ok (.if_icmp .gt 47, 3) := by decide +kernel
theorem dX8_fasted_46 : decode cX8_fasted 46 = .ok (.aload_n 0, 1) := by decide +kernel
theorem dX8_fasted_47 : decode cX8_fasted 47 = .ok (.getfield 19, 3) := by decide +kernel
theorem dX8_fasted_50 : decode cX8_fasted 50 = .ok (.getfield 124, 3) := by decide +kernel
theorem dX8_fasted_53 : decode cX8_fasted 53 = .ok (.iload_n 1, 1) := by decide +kernel
theorem dX8_fasted_54 : decode cX8_fasted 54 = .ok (.iload 4, 2) := by decide +kernel
theorem dX8_fasted_56 : decode cX8_fasted 56 = .ok (.iastore, 1) := by decide +kernel
theorem dX8_fasted_57 : decode cX8_fasted 57 = .ok (.aload_n 0, 1) := by decide +kernel
theorem dX8_fasted_58 : decode cX8_fasted 58 = .ok (.getfield 29, 3) := by decide +kernel
theorem dX8_fasted_61 : decode cX8_fasted 61 = .ok (.aload_n 0, 1) := by decide +kernel
theorem dX8_fasted_62 : decode cX8_fasted 62 = .ok (.getfield 19, 3) := by decide +kernel
theorem dX8_fasted_65 : decode cX8_fasted 65 = .ok (.iconst 0, 1) := by decide +kernel
theorem dX8_fasted_66 : decode cX8_fasted 66 = .ok (.invokevirtual 149, 3) := by decide +kernel
theorem dX8_fasted_69 : decode cX8_fasted 69 = .ok (.aload_n 0, 1) := by decide +kernel
theorem dX8_fasted_70 : decode cX8_fasted 70 = .ok (.getfield 29, 3) := by decide +kernel
theorem dX8_fasted_73 : decode cX8_fasted 73 = .ok (.iload_n 2, 1) := by decide +kernel
theorem dX8_fasted_74 : decode cX8_fasted 74 = .ok (.invokevirtual 245, 3) := by decide +kernel
theorem dX8_fasted_77 : decode cX8_fasted 77 = .ok (.iload_n 3, 1) := by decide +kernel
theorem dX8_fasted_78 : decode cX8_fasted 78 = .ok (.if_icmp .ne 6, 3) := by decide +kernel
theorem dX8_fasted_81 : decode cX8_fasted 81 = .ok (.iload 4, 2) := by decide +kernel
theorem dX8_fasted_83 : decode cX8_fasted 83 = .ok (.ireturn, 1) := by decide +kernel
theorem dX8_fasted_84 : decode cX8_fasted 84 = .ok (.iinc 4 1, 3) := by decide +kernel
theorem dX8_fasted_87 : decode cX8_fasted 87 = .ok (.goto (-48), 3) := by decide +kernel
theorem dX8_fasted_90 : decode cX8_fasted 90 = .ok (.aload_n 0, 1) := by decide +kernel
theorem dX8_fasted_91 : decode cX8_fasted 91 = .ok (.ldc 208, 2) := by decide +kernel
theorem dX8_fasted_93 : decode cX8_fasted 93 = .ok (.invokevirtual 84, 3) := by decide +kernel
theorem dX8_fasted_96 : decode cX8_fasted 96 = .ok (.ireturn, 1) := by decide +kernel
set_option maxRecDepth 20000 in
theorem ggX8_feed_X8_within : GoodIn wsX8_feed wsX8_within := goodIn_r _ [8] (by decide +kernel) (by decide +kernel)
set_option maxRecDepth 20000 in
theorem gX8_feed_X8_within : GoodIn wsX8_feed (va_wsS RX8 79 yX8_within wsX8_within) := goodIn_app (goodIn_of _ (by decide +kernel)) ggX8_feed_X8_within
set_option maxRecDepth 20000 in
theorem ggX8_feed_X8_found : GoodIn wsX8_feed wsX8_found := goodIn_r _ [12, 1, 13, 5, 6, 7, 8, 21, 22, 23, 24, 25, 26, 27, 28, 29, 30, 31, 32] (by decide +kernel) (by decide +kernel)
set_option maxRecDepth 20000 in
theorem gX8_feed_X8_found : GoodIn wsX8_feed (wsV RX8 84 RX8 yX8_found wsX8_found) := goodIn_app (goodIn_of _ (by decide +kernel)) ggX8_feed_X8_found
set_option maxRecDepth 20000 in
theorem ggX8_feed_X4_putLowest : GoodIn wsX8_feed wsX4_putLowest := goodIn_r _ [18, 19, 20, 33, 34] (by decide +kernel) (by decide +kernel)
set_option maxRecDepth 20000 in
theorem gX8_feed_X4_putLowest : GoodIn wsX8_feed (wsV RX8 251 RX4 yX4_putLowest wsX4_putLowest) := goodIn_app (goodIn_of _ (by decide +kernel)) ggX8_feed_X4_putLowest
theorem dX8_feed_0 : decode cX8_feed 0 = .ok (.iload_n 2, 1) := by decide +kernel
theorem dX8_feed_1 : decode cX8_feed 1 = .ok (.iconst 1, 1) := by decide +kernel
theorem dX8_feed_2 : decode cX8_feed 2 = .ok (.iconst 4, 1) := by decide +kernel
theorem dX8_feed_3 : decode cX8_feed 3 = .ok (.invokestatic 79, 3) := by decide +kernel
theorem dX8_feed_6 : decode cX8_feed 6 = .ok (.ifCond .ne 10, 3) := by decide +kernel
theorem dX8_feed_9 : decode cX8_feed 9 = .ok (.aload_n 0, 1) := by decide +kernel
theorem dX8_feed_10 : decode cX8_feed 10 = .ok (.ldc 83, 2) := by decide +kernel
theorem dX8_feed_12 : decode cX8_feed 12 = .ok (.invokevirtual 84, 3) := by decide +kernel
theorem dX8_feed_15 : decode cX8_feed 15 = .ok (.ireturn, 1) := by decide +kernel
theorem dX8_feed_16 : decode cX8_feed 16 = .ok (.aload_n 0, 1) := by decide +kernel
theorem dX8_feed_17 : decode cX8_feed 17 = .ok (.getfield 36, 3) := by decide +kernel
theorem dX8_feed_20 : decode cX8_feed 20 = .ok (.getfield 248, 3) := by decide +kernel
theorem dX8_feed_23 : decode cX8_feed 23 = .ok (.iload_n 2, 1) := by decide +kernel
theorem dX8_feed_24 : decode cX8_feed 24 = .ok (.iadd, 1) := by decide +kernel
theorem dX8_feed_25 : decode cX8_feed 25 = .ok (.bipush 120, 2) := by decide +kernel
theorem dX8_feed_27 : decode cX8_feed 27 = .ok (.if_icmp .le 10, 3) := by decide +kernel
theorem dX8_feed_30 : decode cX8_feed 30 = .ok (.aload_n 0, 1) := by decide +kernel
theorem dX8_feed_31 : decode cX8_feed 31 = .ok (.ldc 105, 2) := by decide +kernel
theorem dX8_feed_33 : decode cX8_feed 33 = .ok (.invokevirtual 84, 3) := by decide +kernel
theorem dX8_feed_36 : decode cX8_feed 36 = .ok (.ireturn, 1) := by decide +kernel
theorem dX8_feed_37 : decode cX8_feed 37 = .ok (.aload_n 0, 1) := by decide +kernel
theorem dX8_feed_38 : decode cX8_feed 38 = .ok (.getfield 36, 3) := by decide +kernel
theorem dX8_feed_41 : decode cX8_feed 41 = .ok (.iload_n 1, 1) := by decide +kernel
theorem dX8_feed_42 : decode cX8_feed 42 = .ok (.iload_n 2, 1) := by decide +kernel
theorem dX8_feed_43 : decode cX8_feed 43 = .ok (.invokevirtual 251, 3) := by decide +kernel
theorem dX8_feed_46 : decode cX8_feed 46 = .ok (.aload_n 0, 1) := by decide +kernel
theorem dX8_feed_47 : decode cX8_feed 47 = .ok (.getfield 36, 3) := by decide +kernel
theorem dX8_feed_50 : decode cX8_feed 50 = .ok (.getfield 248, 3) := by decide +kernel
theorem dX8_feed_53 : decode cX8_feed 53 = .ok (.ireturn, 1) := by decide +kernel
theorem dX8_wipe_0 : decode cX8_wipe 0 = .ok (.aload_n 0, 1) := by decide +kernel
theorem dX8_wipe_1 : decode cX8_wipe 1 = .ok (.getfield 36, 3) := by decide +kernel
theorem dX8_wipe_4 : decode cX8_wipe 4 = .ok (.getfield 248, 3) := by decide +kernel
theorem dX8_wipe_7 : decode cX8_wipe 7 = .ok (.istore_n 1, 1) := by decide +kernel
theorem dX8_wipe_8 : decode cX8_wipe 8 = .ok (.aload_n 0, 1) := by decide +kernel
theorem dX8_wipe_9 : decode cX8_wipe 9 = .ok (.getfield 36, 3) := by decide +kernel
theorem dX8_wipe_12 : decode cX8_wipe 12 = .ok (.iconst 0, 1) := by decide +kernel
theorem dX8_wipe_13 : decode cX8_wipe 13 = .ok (.putfield 248, 3) := by decide +kernel
theorem dX8_wipe_16 : decode cX8_wipe 16 = .ok (.iload_n 1, 1) := by decide +kernel
theorem dX8_wipe_17 : decode cX8_wipe 17 = .ok (.ireturn, 1) := by decide +kernel
set_option maxRecDepth 20000 in
theorem ggX8_night_X2_readAll : GoodIn wsX8_night wsX2_readAll := goodIn_r _ [10, 11, 12, 13, 14, 15, 16, 17, 18, 19, 20, 21, 22, 23, 24, 25, 26, 27, 28, 29, 30, 31, 32, 33, 34, 35, 36, 37, 38, 39, 40, 41, 42, 43, 44, 45, 46, 47, 48, 49, 50, 51, 52, 53, 54, 55, 56, 57, 58, 59, 60, 61, 62, 63, 64, 65, 66, 67, 68, 69, 70, 71, 72, 73, 74, 75, 76, 77, 78, 79, 80, 81, 82, 83, 84, 85, 86, 87, 88, 89, 90, 91, 92, 93, 94, 95, 96, 97, 98, 99, 100, 101, 102, 103, 104, 105, 106, 107, 108, 109, 110, 111, 112, 113, 114, 115, 116, 117, 118, 119, 120, 121, 122, 123, 124, 125, 126, 127, 9, 128, 129, 130, 131, 132, 133, 134, 135, 136, 137, 138, 139, 140, 141, 142, 143, 144, 145, 146, 147, 148, 149, 150, 151, 152, 153, 154, 155, 156, 157, 158, 159, 160, 161, 162, 163, 164, 165, 166, 167, 168, 169, 170, 171, 172, 173, 174, 175, 176, 177, 178, 179, 180, 181, 182, 183, 184, 185, 206, 207, 208, 209, 210, 211, 212, 213, 214, 215, 216, 217, 218, 219, 220, 221, 222, 223, 224, 204, 205] (by decide +kernel) (by decide +kernel)
set_option maxRecDepth 20000 in
theorem gX8_night_X2_readAll : GoodIn wsX8_night (wsV RX8 254 RX2 yX2_readAll wsX2_readAll) := goodIn_app (goodIn_of _ (by decide +kernel)) ggX8_night_X2_readAll
set_option maxRecDepth 20000 in
theorem ggX8_night_X7_becomeAs : GoodIn wsX8_night wsX7_becomeAs := goodIn_r _ [19, 20, 21, 22, 23, 24, 25, 26, 27, 28, 29, 30, 31, 32, 33, 34, 35, 213, 214, 215, 216, 217, 218, 219, 220, 221, 222, 223, 224] (by decide +kernel) (by decide +kernel)
set_option maxRecDepth 20000 in
theorem gX8_night_X7_becomeAs : GoodIn wsX8_night (wsV RX8 233 RX7 yX7_becomeAs wsX7_becomeAs) := goodIn_app (goodIn_of _ (by decide +kernel)) ggX8_night_X7_becomeAs
set_option maxRecDepth 20000 in
theorem ggX8_night_X2_faultPlace : GoodIn wsX8_night wsX2_faultPlace := goodIn_r _ [190, 12, 191, 13, 206, 207, 208, 209, 210, 211, 212] (by decide +kernel) (by decide +kernel)
set_option maxRecDepth 20000 in
theorem gX8_night_X2_faultPlace : GoodIn wsX8_night (wsV RX8 261 RX2 yX2_faultPlace wsX2_faultPlace) := goodIn_app (goodIn_of _ (by decide +kernel)) ggX8_night_X2_faultPlace
theorem dX8_night_0 : decode cX8_night 0 = .ok (.aload_n 0, 1) := by decide +kernel
theorem dX8_night_1 : decode cX8_night 1 = .ok (.getfield 43, 3) := by decide +kernel
theorem dX8_night_4 : decode cX8_night 4 = .ok (.aload_n 0, 1) := by decide +kernel
theorem dX8_night_5 : decode cX8_night 5 = .ok (.getfield 36, 3) := by decide +kernel
theorem dX8_night_8 : decode cX8_night 8 = .ok (.aload_n 0, 1) := by decide +kernel
theorem dX8_night_9 : decode cX8_night 9 = .ok (.getfield 10, 3) := by decide +kernel
theorem dX8_night_12 : decode cX8_night 12 = .ok (.invokevirtual 254, 3) := by decide +kernel
theorem dX8_night_15 : decode cX8_night 15 = .ok (.istore_n 1, 1) := by decide +kernel
theorem dX8_night_16 : decode cX8_night 16 = .ok (.aload_n 0, 1) := by decide +kernel
theorem dX8_night_17 : decode cX8_night 17 = .ok (.getfield 36, 3) := by decide +kernel
theorem dX8_night_20 : decode cX8_night 20 = .ok (.iconst 0, 1) := by decide +kernel
theorem dX8_night_21 : decode cX8_night 21 = .ok (.putfield 248, 3) := by decide +kernel
theorem dX8_night_24 : decode cX8_night 24 = .ok (.iload_n 1, 1) := by decide +kernel
theorem dX8_night_25 : decode cX8_night 25 = .ok (.ifCond .le 19, 3) := by decide +kernel
theorem dX8_night_28 : decode cX8_night 28 = .ok (.aload_n 0, 1) := by decide +kernel
theorem dX8_night_29 : decode cX8_night 29 = .ok (.getfield 10, 3) := by decide +kernel
theorem dX8_night_32 : decode cX8_night 32 = .ok (.aload_n 0, 1) := by decide +kernel
theorem dX8_night_33 : decode cX8_night 33 = .ok (.getfield 43, 3) := by decide +kernel
theorem dX8_night_36 : decode cX8_night 36 = .ok (.getfield 258, 3) := by decide +kernel
theorem dX8_night_39 : decode cX8_night 39 = .ok (.invokevirtual 233, 3) := by decide +kernel
theorem dX8_night_42 : decode cX8_night 42 = .ok (.iload_n 1, 1) := by decide +kernel
theorem dX8_night_43 : decode cX8_night 43 = .ok (.ireturn, 1) := by decide +kernel
theorem dX8_night_44 : decode cX8_night 44 = .ok (.iconst (-1), 1) := by decide +kernel
theorem dX8_night_45 : decode cX8_night 45 = .ok (.aload_n 0, 1) := by decide +kernel
theorem dX8_night_46 : decode cX8_night 46 = .ok (.getfield 43, 3) := by decide +kernel
theorem dX8_night_49 : decode cX8_night 49 = .ok (.invokevirtual 261, 3) := by decide +kernel
theorem dX8_night_52 : decode cX8_night 52 = .ok (.isub, 1) := by decide +kernel
theorem dX8_night_53 : decode cX8_night 53 = .ok (.ireturn, 1) := by decide +kernel
set_option maxRecDepth 20000 in
theorem ggX8_sheet_X8_isSheet : GoodIn wsX8_sheet wsX8_isSheet := goodIn_r _ [8, 9, 10, 7, 11] (by decide +kernel) (by decide +kernel)
set_option maxRecDepth 20000 in
theorem gX8_sheet_X8_isSheet : GoodIn wsX8_sheet (va_wsS RX8 264 yX8_isSheet wsX8_isSheet) := goodIn_app (goodIn_of _ (by decide +kernel)) ggX8_sheet_X8_isSheet
set_option maxRecDepth 20000 in
theorem ggX8_sheet_X8_found : GoodIn wsX8_sheet wsX8_found := goodIn_r _ [15, 1, 16, 9, 10, 7, 11, 29, 30, 31, 32, 33, 34, 35, 36, 37, 38, 39, 40] (by decide +kernel) (by decide +kernel)
set_option maxRecDepth 20000 in
theorem gX8_sheet_X8_found : GoodIn wsX8_sheet (wsV RX8 84 RX8 yX8_found wsX8_found) := goodIn_app (goodIn_of _ (by decide +kernel)) ggX8_sheet_X8_found
set_option maxRecDepth 20000 in
theorem ggX8_sheet_X3_layOut : GoodIn wsX8_sheet wsX3_layOut := goodIn_r _ [21, 22, 23, 24, 25, 26, 27, 28, 41, 42, 43] (by decide +kernel) (by decide +kernel)
set_option maxRecDepth 20000 in
theorem gX8_sheet_X3_layOut : GoodIn wsX8_sheet (wsV RX8 268 RX3 yX3_layOut wsX3_layOut) := goodIn_app (goodIn_of _ (by decide +kernel)) ggX8_sheet_X3_layOut
theorem dX8_sheet_0 : decode cX8_sheet 0 = .ok (.iload_n 1, 1) := by decide +kernel
theorem dX8_sheet_1 : decode cX8_sheet 1 = .ok (.invokestatic 264, 3) := by decide +kernel
theorem dX8_sheet_4 : decode cX8_sheet 4 = .ok (.ifCond .eq 25, 3) := by decide +kernel
theorem dX8_sheet_7 : decode cX8_sheet 7 = .ok (.iload_n 2, 1) := by decide +kernel
theorem dX8_sheet_8 : decode cX8_sheet 8 = .ok (.ifCond .eq 28, 3) := by decide +kernel
theorem dX8_sheet_11 : decode cX8_sheet 11 = .ok (.iload_n 2, 1) := by decide +kernel
theorem dX8_sheet_12 : decode cX8_sheet 12 = .ok (.bipush 8, 2) := by decide +kernel
theorem dX8_sheet_14 : decode cX8_sheet 14 = .ok (.if_icmp .eq 22, 3) := by decide +kernel
theorem dX8_sheet_17 : decode cX8_sheet 17 = .ok (.iload_n 2, 1) := by decide +kernel
theorem dX8_sheet_18 : decode cX8_sheet 18 = .ok (.bipush 16, 2) := by decide +kernel
theorem dX8_sheet_20 : decode cX8_sheet 20 = .ok (.if_icmp .eq 16, 3) := by decide +kernel
theorem dX8_sheet_23 : decode cX8_sheet 23 = .ok (.iload_n 2, 1) := by decide +kernel
theorem dX8_sheet_24 : decode cX8_sheet 24 = .ok (.bipush 64, 2) := by decide +kernel
theorem dX8_sheet_26 : decode cX8_sheet 26 = .ok (.if_icmp .eq 10, 3) := by decide +kernel
theorem dX8_sheet_29 : decode cX8_sheet 29 = .ok (.aload_n 0, 1) := by decide +kernel
theorem dX8_sheet_30 : decode cX8_sheet 30 = .ok (.ldc 83, 2) := by decide +kernel
theorem dX8_sheet_32 : decode cX8_sheet 32 = .ok (.invokevirtual 84, 3) := by decide +kernel
theorem dX8_sheet_35 : decode cX8_sheet 35 = .ok (.ireturn, 1) := by decide +kernel
theorem dX8_sheet_36 : decode cX8_sheet 36 = .ok (.iload_n 3, 1) := by decide +kernel
theorem dX8_sheet_37 : decode cX8_sheet 37 = .ok (.ifCond .ge 11, 3) := by decide +kernel
theorem dX8_sheet_40 : decode cX8_sheet 40 = .ok (.aload_n 0, 1) := by decide +kernel
theorem dX8_sheet_41 : decode cX8_sheet 41 = .ok (.ldc_w 267, 3) := by decide +kernel
theorem dX8_sheet_44 : decode cX8_sheet 44 = .ok (.invokevirtual 84, 3) := by decide +kernel
theorem dX8_sheet_47 : decode cX8_sheet 47 = .ok (.ireturn, 1) := by decide +kernel
theorem dX8_sheet_48 : decode cX8_sheet 48 = .ok (.iload_n 3, 1) := by decide +kernel
theorem dX8_sheet_49 : decode cX8_sheet 49 = .ok (.bipush 40, 2) := by decide +kernel
theorem dX8_sheet_51 : decode cX8_sheet 51 = .ok (.if_icmp .le 10, 3) := by decide +kernel
theorem dX8_sheet_54 : decode cX8_sheet 54 = .ok (.aload_n 0, 1) := by decide +kernel
theorem dX8_sheet_55 : decode cX8_sheet 55 = .ok (.ldc 83, 2) := by decide +kernel
theorem dX8_sheet_57 : decode cX8_sheet 57 = .ok (.invokevirtual 84, 3) := by decide +kernel
theorem dX8_sheet_60 : decode cX8_sheet 60 = .ok (.ireturn, 1) := by decide +kernel
theorem dX8_sheet_61 : decode cX8_sheet 61 = .ok (.aload_n 0, 1) := by decide +kernel
theorem dX8_sheet_62 : decode cX8_sheet 62 = .ok (.getfield 49, 3) := by decide +kernel
theorem dX8_sheet_65 : decode cX8_sheet 65 = .ok (.iload_n 1, 1) := by decide +kernel
theorem dX8_sheet_66 : decode cX8_sheet 66 = .ok (.aaload, 1) := by decide +kernel
theorem dX8_sheet_67 : decode cX8_sheet 67 = .ok (.iload_n 2, 1) := by decide +kernel
theorem dX8_sheet_68 : decode cX8_sheet 68 = .ok (.iload_n 3, 1) := by decide +kernel
theorem dX8_sheet_69 : decode cX8_sheet 69 = .ok (.invokevirtual 268, 3) := by decide +kernel
theorem dX8_sheet_72 : decode cX8_sheet 72 = .ok (.aload_n 0, 1) := by decide +kernel
theorem dX8_sheet_73 : decode cX8_sheet 73 = .ok (.getfield 49, 3) := by decide +kernel
theorem dX8_sheet_76 : decode cX8_sheet 76 = .ok (.iload_n 1, 1) := by decide +kernel
theorem dX8_sheet_77 : decode cX8_sheet 77 = .ok (.aaload, 1) := by decide +kernel
theorem dX8_sheet_78 : decode cX8_sheet 78 = .ok (.getfield 271, 3) := by decide +kernel
theorem dX8_sheet_81 : decode cX8_sheet 81 = .ok (.ireturn, 1) := by decide +kernel
set_option maxRecDepth 20000 in
theorem ggX8_write_X8_isSheet : GoodIn wsX8_write wsX8_isSheet := goodIn_r _ [9, 10, 11, 8, 12] (by decide +kernel) (by decide +kernel)
set_option maxRecDepth 20000 in
theorem gX8_write_X8_isSheet : GoodIn wsX8_write (va_wsS RX8 264 yX8_isSheet wsX8_isSheet) := goodIn_app (goodIn_of _ (by decide +kernel)) ggX8_write_X8_isSheet
set_option maxRecDepth 20000 in
theorem ggX8_write_X8_found : GoodIn wsX8_write wsX8_found := goodIn_r _ [16, 1, 17, 10, 11, 8, 12, 29, 30, 31, 32, 33, 34, 35, 36, 37, 38, 39, 40] (by decide +kernel) (by decide +kernel)
set_option maxRecDepth 20000 in
theorem gX8_write_X8_found : GoodIn wsX8_write (wsV RX8 84 RX8 yX8_found wsX8_found) := goodIn_app (goodIn_of _ (by decide +kernel)) ggX8_write_X8_found
set_option maxRecDepth 20000 in
theorem ggX8_write_X3_isMissing : GoodIn wsX8_write wsX3_isMissing := goodIn_r _ [22, 23, 41, 42, 43] (by decide +kernel) (by decide +kernel)
set_option maxRecDepth 20000 in
theorem gX8_write_X3_isMissing : GoodIn wsX8_write (wsV RX8 272 RX3 yX3_isMissing wsX3_isMissing) := goodIn_app (goodIn_of _ (by decide +kernel)) ggX8_write_X3_isMissing
set_option maxRecDepth 20000 in
theorem ggX8_write_X8_within : GoodIn wsX8_write wsX8_within := goodIn_r _ [12] (by decide +kernel) (by decide +kernel)
set_option maxRecDepth 20000 in
theorem gX8_write_X8_within : GoodIn wsX8_write (va_wsS RX8 79 yX8_within wsX8_within) := goodIn_app (goodIn_of _ (by decide +kernel)) ggX8_write_X8_within
set_option maxRecDepth 20000 in
theorem ggX8_write_X3_put : GoodIn wsX8_write wsX3_put := goodIn_r _ [27, 23, 28, 41, 42, 43] (by decide +kernel) (by decide +kernel)
set_option maxRecDepth 20000 in
theorem gX8_write_X3_put : GoodIn wsX8_write (wsV RX8 280 RX3 yX3_put wsX3_put) := goodIn_app (goodIn_of _ (by decide +kernel)) ggX8_write_X3_put
theorem dX8_write_0 : decode cX8_write 0 = .ok (.iload_n 1, 1) := by decide +kernel
theorem dX8_write_1 : decode cX8_write 1 = .ok (.invokestatic 264, 3) := by decide +kernel
theorem dX8_write_4 : decode cX8_write 4 = .ok (.ifCond .ne 11, 3) := by decide +kernel
theorem dX8_write_7 : decode cX8_write 7 = .ok (.aload_n 0, 1) := by decide +kernel
theorem dX8_write_8 : decode cX8_write 8 = .ok (.ldc 83, 2) := by decide +kernel
theorem dX8_write_10 : decode cX8_write 10 = .ok (.invokevirtual 84, 3) := by decide +kernel
theorem dX8_write_13 : decode cX8_write 13 = .ok (.i2l, 1) := by decide +kernel
theorem dX8_write_14 : decode cX8_write 14 = .ok (.lreturn, 1) := by decide +kernel
theorem dX8_write_15 : decode cX8_write 15 = .ok (.aload_n 0, 1) := by decide +kernel
theorem dX8_write_16 : decode cX8_write 16 = .ok (.getfield 49, 3) := by decide +kernel
theorem dX8_write_19 : decode cX8_write 19 = .ok (.iload_n 1, 1) := by decide +kernel
theorem dX8_write_20 : decode cX8_write 20 = .ok (.aaload, 1) := by decide +kernel
theorem dX8_write_21 : decode cX8_write 21 = .ok (.invokevirtual 272, 3) := by decide +kernel
theorem dX8_write_24 : decode cX8_write 24 = .ok (.ifCond .eq 12, 3) := by decide +kernel
theorem dX8_write_27 : decode cX8_write 27 = .ok (.aload_n 0, 1) := by decide +kernel
theorem dX8_write_28 : decode cX8_write 28 = .ok (.ldc_w 275, 3) := by decide +kernel
theorem dX8_write_31 : decode cX8_write 31 = .ok (.invokevirtual 84, 3) := by decide +kernel
theorem dX8_write_34 : decode cX8_write 34 = .ok (.i2l, 1) := by decide +kernel
theorem dX8_write_35 : decode cX8_write 35 = .ok (.lreturn, 1) := by decide +kernel
theorem dX8_write_36 : decode cX8_write 36 = .ok (.iload_n 2, 1) := by decide +kernel
theorem dX8_write_37 : decode cX8_write 37 = .ok (.iconst 0, 1) := by decide +kernel
theorem dX8_write_38 : decode cX8_write 38 = .ok (.aload_n 0, 1) := by decide +kernel
theorem dX8_write_39 : decode cX8_write 39 = .ok (.getfield 49, 3) := by decide +kernel
theorem dX8_write_42 : decode cX8_write 42 = .ok (.iload_n 1, 1) := by decide +kernel
theorem dX8_write_43 : decode cX8_write 43 = .ok (.aaload, 1) := by decide +kernel
theorem dX8_write_44 : decode cX8_write 44 = .ok (.getfield 271, 3) := by decide +kernel
theorem dX8_write_47 : decode cX8_write 47 = .ok (.iconst 1, 1) := by decide +kernel
theorem dX8_write_48 : decode cX8_write 48 = .ok (.isub, 1) := by decide +kernel
theorem dX8_write_49 : decode cX8_write 49 = .ok (.invokestatic 79, 3) := by decide +kernel
theorem dX8_write_52 : decode cX8_write 52 = .ok (.ifCond .ne 11, 3) := by decide +kernel
theorem dX8_write_55 : decode cX8_write 55 = .ok (.aload_n 0, 1) := by decide +kernel
theorem dX8_write_56 : decode cX8_write 56 = .ok (.ldc 83, 2) := by decide +kernel
theorem dX8_write_58 : decode cX8_write 58 = .ok (.invokevirtual 84, 3) := by decide +kernel
theorem dX8_write_61 : decode cX8_write 61 = .ok (.i2l, 1) := by decide +kernel
theorem dX8_write_62 : decode cX8_write 62 = .ok (.lreturn, 1) := by decide +kernel
theorem dX8_write_63 : decode cX8_write 63 = .ok (.aload_n 0, 1) := by decide +kernel
theorem dX8_write_64 : decode cX8_write 64 = .ok (.getfield 49, 3) := by decide +kernel
theorem dX8_write_67 : decode cX8_write 67 = .ok (.iload_n 1, 1) := by decide +kernel
theorem dX8_write_68 : decode cX8_write 68 = .ok (.aaload, 1) := by decide +kernel
theorem dX8_write_69 : decode cX8_write 69 = .ok (.getfield 276, 3) := by decide +kernel
theorem dX8_write_72 : decode cX8_write 72 = .ok (.iload_n 2, 1) := by decide +kernel
theorem dX8_write_73 : decode cX8_write 73 = .ok (.laload, 1) := by decide +kernel
theorem dX8_write_74 : decode cX8_write 74 = .ok (.lstore 5, 2) := by decide +kernel
theorem dX8_write_76 : decode cX8_write 76 = .ok (.aload_n 0, 1) := by decide +kernel
theorem dX8_write_77 : decode cX8_write 77 = .ok (.getfield 49, 3) := by decide +kernel
theorem dX8_write_80 : decode cX8_write 80 = .ok (.iload_n 1, 1) := by decide +kernel
theorem dX8_write_81 : decode cX8_write 81 = .ok (.aaload, 1) := by decide +kernel
theorem dX8_write_82 : decode cX8_write 82 = .ok (.iload_n 2, 1) := by decide +kernel
theorem dX8_write_83 : decode cX8_write 83 = .ok (.lload_n 3, 1) := by decide +kernel
theorem dX8_write_84 : decode cX8_write 84 = .ok (.invokevirtual 280, 3) := by decide +kernel
theorem dX8_write_87 : decode cX8_write 87 = .ok (.lload 5, 2) := by decide +kernel
theorem dX8_write_89 : decode cX8_write 89 = .ok (.lreturn, 1) := by decide +kernel
set_option maxRecDepth 20000 in
theorem ggX8_copy_X8_isSheet : GoodIn wsX8_copy wsX8_isSheet := goodIn_r _ [14, 15, 16, 13, 17] (by decide +kernel) (by decide +kernel)
set_option maxRecDepth 20000 in
theorem gX8_copy_X8_isSheet : GoodIn wsX8_copy (va_wsS RX8 264 yX8_isSheet wsX8_isSheet) := goodIn_app (goodIn_of _ (by decide +kernel)) ggX8_copy_X8_isSheet
set_option maxRecDepth 20000 in
theorem ggX8_copy_X8_found : GoodIn wsX8_copy wsX8_found := goodIn_r _ [21, 1, 22, 15, 16, 13, 17, 34, 35, 36, 37, 38, 39, 40, 41, 42, 43, 44, 45] (by decide +kernel) (by decide +kernel)
set_option maxRecDepth 20000 in
theorem gX8_copy_X8_found : GoodIn wsX8_copy (wsV RX8 84 RX8 yX8_found wsX8_found) := goodIn_app (goodIn_of _ (by decide +kernel)) ggX8_copy_X8_found
set_option maxRecDepth 20000 in
theorem ggX8_copy_X3_isMissing : GoodIn wsX8_copy wsX3_isMissing := goodIn_r _ [27, 28, 46, 47, 48] (by decide +kernel) (by decide +kernel)
set_option maxRecDepth 20000 in
theorem gX8_copy_X3_isMissing : GoodIn wsX8_copy (wsV RX8 272 RX3 yX3_isMissing wsX3_isMissing) := goodIn_app (goodIn_of _ (by decide +kernel)) ggX8_copy_X3_isMissing
set_option maxRecDepth 20000 in
theorem ggX8_copy_X3_hasSpan : GoodIn wsX8_copy wsX3_hasSpan := goodIn_r _ [32, 33, 46, 47, 48] (by decide +kernel) (by decide +kernel)
set_option maxRecDepth 20000 in
theorem gX8_copy_X3_hasSpan : GoodIn wsX8_copy (wsV RX8 287 RX3 yX3_hasSpan wsX3_hasSpan) := goodIn_app (goodIn_of _ (by decide +kernel)) ggX8_copy_X3_hasSpan
theorem dX8_copy_0 : decode cX8_copy 0 = .ok (.iload_n 1, 1) := by decide +kernel
theorem dX8_copy_1 : decode cX8_copy 1 = .ok (.invokestatic 264, 3) := by decide +kernel
theorem dX8_copy_4 : decode cX8_copy 4 = .ok (.ifCond .eq 10, 3) := by decide +kernel
theorem dX8_copy_7 : decode cX8_copy 7 = .ok (.iload_n 3, 1) := by decide +kernel
theorem dX8_copy_8 : decode cX8_copy 8 = .ok (.invokestatic 264, 3) := by decide +kernel
theorem dX8_copy_11 : decode cX8_copy 11 = .ok (.ifCond .ne 10, 3) := by decide +kernel
theorem dX8_copy_14 : decode cX8_copy 14 = .ok (.aload_n 0, 1) := by decide +kernel
theorem dX8_copy_15 : decode cX8_copy 15 = .ok (.ldc 83, 2) := by decide +kernel
theorem dX8_copy_17 : decode cX8_copy 17 = .ok (.invokevirtual 84, 3) := by decide +kernel
theorem dX8_copy_20 : decode cX8_copy 20 = .ok (.ireturn, 1) := by decide +kernel
theorem dX8_copy_21 : decode cX8_copy 21 = .ok (.aload_n 0, 1) := by decide +kernel
theorem dX8_copy_22 : decode cX8_copy 22 = .ok (.getfield 49, 3) := by decide +kernel
theorem dX8_copy_25 : decode cX8_copy 25 = .ok (.iload_n 1, 1) := by decide +kernel
theorem dX8_copy_26 : decode cX8_copy 26 = .ok (.aaload, 1) := by decide +kernel
theorem dX8_copy_27 : decode cX8_copy 27 = .ok (.astore 6, 2) := by decide +kernel
theorem dX8_copy_29 : decode cX8_copy 29 = .ok (.aload_n 0, 1) := by decide +kernel
theorem dX8_copy_30 : decode cX8_copy 30 = .ok (.getfield 49, 3) := by decide +kernel
theorem dX8_copy_33 : decode cX8_copy 33 = .ok (.iload_n 3, 1) := by decide +kernel
theorem dX8_copy_34 : decode cX8_copy 34 = .ok (.aaload, 1) := by decide +kernel
theorem dX8_copy_35 : decode cX8_copy 35 = .ok (.astore 7, 2) := by decide +kernel
theorem dX8_copy_37 : decode cX8_copy 37 = .ok (.aload 6, 2) := by decide +kernel
theorem dX8_copy_39 : decode cX8_copy 39 = .ok (.invokevirtual 272, 3) := by decide +kernel
theorem dX8_copy_42 : decode cX8_copy 42 = .ok (.ifCond .ne 11, 3) := by decide +kernel
theorem dX8_copy_45 : decode cX8_copy 45 = .ok (.aload 7, 2) := by decide +kernel
theorem dX8_copy_47 : decode cX8_copy 47 = .ok (.invokevirtual 272, 3) := by decide +kernel
theorem dX8_copy_50 : decode cX8_copy 50 = .ok (.ifCond .eq 11, 3) := by decide +kernel
theorem dX8_copy_53 : decode cX8_copy 53 = .ok (.aload_n 0, 1) := by decide +kernel
theorem dX8_copy_54 : decode cX8_copy 54 = .ok (.ldc_w 275, 3) := by decide +kernel
theorem dX8_copy_57 : decode cX8_copy 57 = .ok (.invokevirtual 84, 3) := by decide +kernel
theorem dX8_copy_60 : decode cX8_copy 60 = .ok (.ireturn, 1) := by decide +kernel
theorem dX8_copy_61 : decode cX8_copy 61 = .ok (.aload 6, 2) := by decide +kernel
theorem dX8_copy_63 : decode cX8_copy 63 = .ok (.getfield 284, 3) := by decide +kernel
theorem dX8_copy_66 : decode cX8_copy 66 = .ok (.aload 7, 2) := by decide +kernel
theorem dX8_copy_68 : decode cX8_copy 68 = .ok (.getfield 284, 3) := by decide +kernel
theorem dX8_copy_71 : decode cX8_copy 71 = .ok (.if_icmp .eq 10, 3) := by decide +kernel
theorem dX8_copy_74 : decode cX8_copy 74 = .ok (.aload_n 0, 1) := by decide +kernel
theorem dX8_copy_75 : decode cX8_copy 75 = .ok (.ldc 144, 2) := by decide +kernel
theorem dX8_copy_77 : decode cX8_copy 77 = .ok (.invokevirtual 84, 3) := by decide +kernel
theorem dX8_copy_80 : decode cX8_copy 80 = .ok (.ireturn, 1) := by decide +kernel
theorem dX8_copy_81 : decode cX8_copy 81 = .ok (.aload 6, 2) := by decide +kernel
theorem dX8_copy_83 : decode cX8_copy 83 = .ok (.iload_n 2, 1) := by decide +kernel
theorem dX8_copy_84 : decode cX8_copy 84 = .ok (.iload 5, 2) := by decide +kernel
theorem dX8_copy_86 : decode cX8_copy 86 = .ok (.invokevirtual 287, 3) := by decide +kernel
theorem dX8_copy_89 : decode cX8_copy 89 = .ok (.ifCond .eq 15, 3) := by decide +kernel
theorem dX8_copy_92 : decode cX8_copy 92 = .ok (.aload 7, 2) := by decide +kernel
theorem dX8_copy_94 : decode cX8_copy 94 = .ok (.iload 4, 2) := by decide +kernel
theorem dX8_copy_96 : decode cX8_copy 96 = .ok (.iload 5, 2) := by decide +kernel
theorem dX8_copy_98 : decode cX8_copy 98 = .ok (.invokevirtual 287, 3) := by decide +kernel
theorem dX8_copy_101 : decode cX8_copy 101 = .ok (.ifCond .ne 10, 3) := by decide +kernel
theorem dX8_copy_104 : decode cX8_copy 104 = .ok (.aload_n 0, 1) := by decide +kernel
theorem dX8_copy_105 : decode cX8_copy 105 = .ok (.ldc 83, 2) := by decide +kernel
theorem dX8_copy_107 : decode cX8_copy 107 = .ok (.invokevirtual 84, 3) := by decide +kernel
theorem dX8_copy_110 : decode cX8_copy 110 = .ok (.ireturn, 1) := by decide +kernel
theorem dX8_copy_111 : decode cX8_copy 111 = .ok (.aload 6, 2) := by decide +kernel
theorem dX8_copy_113 : decode cX8_copy 113 = .ok (.getfield 276, 3) := by decide +kernel
theorem dX8_copy_116 : decode cX8_copy 116 = .ok (.iload_n 2, 1) := by decide +kernel
theorem dX8_copy_117 : decode cX8_copy 117 = .ok (.aload 7, 2) := by decide +kernel
theorem dX8_copy_119 : decode cX8_copy 119 = .ok (.getfield 276, 3) := by decide +kernel
theorem dX8_copy_122 : decode cX8_copy 122 = .ok (.iload 4, 2) := by decide +kernel
theorem dX8_copy_124 : decode cX8_copy 124 = .ok (.iload 5, 2) := by decide +kernel
theorem dX8_copy_126 : decode cX8_copy 126 = .ok (.invokestatic 290, 3) := by decide +kernel
theorem dX8_copy_129 : decode cX8_copy 129 = .ok (.iload 5, 2) := by decide +kernel
theorem dX8_copy_131 : decode cX8_copy 131 = .ok (.ireturn, 1) := by decide +kernel
set_option maxRecDepth 20000 in
theorem ggX8_lays_X8_isSheet : GoodIn wsX8_lays wsX8_isSheet := goodIn_r _ [11, 12, 13, 10, 14] (by decide +kernel) (by decide +kernel)
set_option maxRecDepth 20000 in
theorem gX8_lays_X8_isSheet : GoodIn wsX8_lays (va_wsS RX8 264 yX8_isSheet wsX8_isSheet) := goodIn_app (goodIn_of _ (by decide +kernel)) ggX8_lays_X8_isSheet
set_option maxRecDepth 20000 in
theorem ggX8_lays_X8_found : GoodIn wsX8_lays wsX8_found := goodIn_r _ [18, 1, 19, 12, 13, 10, 14, 35, 36, 37, 38, 39, 40, 41, 42, 43, 44, 45, 46] (by decide +kernel) (by decide +kernel)
set_option maxRecDepth 20000 in
theorem gX8_lays_X8_found : GoodIn wsX8_lays (wsV RX8 84 RX8 yX8_found wsX8_found) := goodIn_app (goodIn_of _ (by decide +kernel)) ggX8_lays_X8_found
set_option maxRecDepth 20000 in
theorem ggX8_lays_X3_isMissing : GoodIn wsX8_lays wsX3_isMissing := goodIn_r _ [24, 25, 47, 48, 49] (by decide +kernel) (by decide +kernel)
set_option maxRecDepth 20000 in
theorem gX8_lays_X3_isMissing : GoodIn wsX8_lays (wsV RX8 272 RX3 yX3_isMissing wsX3_isMissing) := goodIn_app (goodIn_of _ (by decide +kernel)) ggX8_lays_X3_isMissing
set_option maxRecDepth 20000 in
theorem ggX8_lays_X3_places : GoodIn wsX8_lays wsX3_places := goodIn_r _ [29, 30, 31, 32, 33, 34, 47, 48, 49] (by decide +kernel) (by decide +kernel)
set_option maxRecDepth 20000 in
theorem gX8_lays_X3_places : GoodIn wsX8_lays (wsV RX8 296 RX3 yX3_places wsX3_places) := goodIn_app (goodIn_of _ (by decide +kernel)) ggX8_lays_X3_places
theorem dX8_lays_0 : decode cX8_lays 0 = .ok (.iload_n 1, 1) := by decide +kernel
theorem dX8_lays_1 : decode cX8_lays 1 = .ok (.invokestatic 264, 3) := by decide +kernel
theorem dX8_lays_4 : decode cX8_lays 4 = .ok (.ifCond .ne 10, 3) := by decide +kernel
theorem dX8_lays_7 : decode cX8_lays 7 = .ok (.aload_n 0, 1) := by decide +kernel
theorem dX8_lays_8 : decode cX8_lays 8 = .ok (.ldc 83, 2) := by decide +kernel
theorem dX8_lays_10 : decode cX8_lays 10 = .ok (.invokevirtual 84, 3) := by decide +kernel
theorem dX8_lays_13 : decode cX8_lays 13 = .ok (.ireturn, 1) := by decide +kernel
theorem dX8_lays_14 : decode cX8_lays 14 = .ok (.aload_n 0, 1) := by decide +kernel
theorem dX8_lays_15 : decode cX8_lays 15 = .ok (.getfield 49, 3) := by decide +kernel
theorem dX8_lays_18 : decode cX8_lays 18 = .ok (.iload_n 1, 1) := by decide +kernel
theorem dX8_lays_19 : decode cX8_lays 19 = .ok (.aaload, 1) := by decide +kernel
theorem dX8_lays_20 : decode cX8_lays 20 = .ok (.astore_n 2, 1) := by decide +kernel
theorem dX8_lays_21 : decode cX8_lays 21 = .ok (.aload_n 2, 1) := by decide +kernel
theorem dX8_lays_22 : decode cX8_lays 22 = .ok (.invokevirtual 272, 3) := by decide +kernel
theorem dX8_lays_25 : decode cX8_lays 25 = .ok (.ifCond .eq 11, 3) := by decide +kernel
theorem dX8_lays_28 : decode cX8_lays 28 = .ok (.aload_n 0, 1) := by decide +kernel
theorem dX8_lays_29 : decode cX8_lays 29 = .ok (.ldc_w 275, 3) := by decide +kernel
theorem dX8_lays_32 : decode cX8_lays 32 = .ok (.invokevirtual 84, 3) := by decide +kernel
theorem dX8_lays_35 : decode cX8_lays 35 = .ok (.ireturn, 1) := by decide +kernel
theorem dX8_lays_36 : decode cX8_lays 36 = .ok (.iconst 0, 1) := by decide +kernel
theorem dX8_lays_37 : decode cX8_lays 37 = .ok (.istore_n 3, 1) := by decide +kernel
theorem dX8_lays_38 : decode cX8_lays 38 = .ok (.iconst 0, 1) := by decide +kernel
theorem dX8_lays_39 : decode cX8_lays 39 = .ok (.istore 4, 2) := by decide +kernel
theorem dX8_lays_41 : decode cX8_lays 41 = .ok (.iload 4, 2) := by decide +kernel
theorem dX8_lays_43 : decode cX8_lays 43 = .ok (.aload_n 2, 1) := by decide +kernel
theorem dX8_lays_44 : decode cX8_lays 44 = .ok (.invokevirtual 296, 3) := by decide +kernel
theorem dX8_lays_47 : decode cX8_lays 47 = .ok (.if_icmp .ge 50, 3) := by decide +kernel
theorem dX8_lays_50 : decode cX8_lays 50 = .ok (.aload_n 2, 1) := by decide +kernel
theorem dX8_lays_51 : decode cX8_lays 51 = .ok (.getfield 276, 3) := by decide +kernel
theorem dX8_lays_54 : decode cX8_lays 54 = .ok (.iload 4, 2) := by decide +kernel
theorem dX8_lays_56 : decode cX8_lays 56 = .ok (.laload, 1) := by decide +kernel
theorem dX8_lays_57 : decode cX8_lays 57 = .ok (.lstore 5, 2) := by decide +kernel
theorem dX8_lays_59 : decode cX8_lays 59 = .ok (.lload 5, 2) := by decide +kernel
theorem dX8_lays_61 : decode cX8_lays 61 = .ok (.lconst 0, 1) := by decide +kernel
theorem dX8_lays_62 : decode cX8_lays 62 = .ok (.lcmp, 1) := by decide +kernel
theorem dX8_lays_63 : decode cX8_lays 63 = .ok (.ifCond .lt 28, 3) := by decide +kernel
theorem dX8_lays_66 : decode cX8_lays 66 = .ok (.lload 5, 2) := by decide +kernel
theorem dX8_lays_68 : decode cX8_lays 68 = .ok (.ldc2_w 299, 3) := by decide +kernel
theorem dX8_lays_71 : decode cX8_lays 71 = .ok (.lcmp, 1) := by decide +kernel
theorem dX8_lays_72 : decode cX8_lays 72 = .ok (.ifCond .gt 19, 3) := by decide +kernel
theorem dX8_lays_75 : decode cX8_lays 75 = .ok (.aload_n 0, 1) := by decide +kernel
theorem dX8_lays_76 : decode cX8_lays 76 = .ok (.getfield 10, 3) := by decide +kernel
theorem dX8_lays_79 : decode cX8_lays 79 = .ok (.getfield 88, 3) := by decide +kernel
theorem dX8_lays_82 : decode cX8_lays 82 = .ok (.iload 4, 2) := by decide +kernel
theorem dX8_lays_84 : decode cX8_lays 84 = .ok (.lload 5, 2) := by decide +kernel
theorem dX8_lays_86 : decode cX8_lays 86 = .ok (.l2i, 1) := by decide +kernel
theorem dX8_lays_87 : decode cX8_lays 87 = .ok (.iastore, 1) := by decide +kernel
theorem dX8_lays_88 : decode cX8_lays 88 = .ok (.iinc 3 1, 3) := by decide +kernel
theorem dX8_lays_91 : decode cX8_lays 91 = .ok (.iinc 4 1, 3) := by decide +kernel
theorem dX8_lays_94 : decode cX8_lays 94 = .ok (.goto (-53), 3) := by decide +kernel
theorem dX8_lays_97 : decode cX8_lays 97 = .ok (.iload_n 3, 1) := by decide +kernel
theorem dX8_lays_98 : decode cX8_lays 98 = .ok (.ireturn, 1) := by decide +kernel
set_option maxRecDepth 20000 in
theorem ggX8_map_X8_isSheet : GoodIn wsX8_map wsX8_isSheet := goodIn_r _ [8, 9, 10, 7, 11] (by decide +kernel) (by decide +kernel)
set_option maxRecDepth 20000 in
theorem gX8_map_X8_isSheet : GoodIn wsX8_map (va_wsS RX8 264 yX8_isSheet wsX8_isSheet) := goodIn_app (goodIn_of _ (by decide +kernel)) ggX8_map_X8_isSheet
set_option maxRecDepth 20000 in
theorem ggX8_map_X8_found : GoodIn wsX8_map wsX8_found := goodIn_r _ [15, 1, 16, 9, 10, 7, 11, 102, 103, 104, 105, 106, 107, 108, 109, 110, 111, 112, 113] (by decide +kernel) (by decide +kernel)
set_option maxRecDepth 20000 in
theorem gX8_map_X8_found : GoodIn wsX8_map (wsV RX8 84 RX8 yX8_found wsX8_found) := goodIn_app (goodIn_of _ (by decide +kernel)) ggX8_map_X8_found
set_option maxRecDepth 20000 in
theorem ggX8_map_X3_isMissing : GoodIn wsX8_map wsX3_isMissing := goodIn_r _ [21, 22, 114, 115, 116] (by decide +kernel) (by decide +kernel)
set_option maxRecDepth 20000 in
theorem gX8_map_X3_isMissing : GoodIn wsX8_map (wsV RX8 272 RX3 yX3_isMissing wsX3_isMissing) := goodIn_app (goodIn_of _ (by decide +kernel)) ggX8_map_X3_isMissing
set_option maxRecDepth 20000 in
theorem ggX8_map_X8_lightAll : GoodIn wsX8_map wsX8_lightAll := goodIn_r _ [26, 27, 28, 4, 29, 30, 31, 32, 33, 34, 35, 36, 37, 38, 39, 40, 41, 42, 43, 44, 45, 46, 47, 48, 49, 50, 51, 52, 53, 54, 55, 56, 57, 58, 59, 60, 61, 7, 62, 63, 64, 65, 66, 67, 68, 69, 70, 71, 72, 73, 74, 75, 76, 77, 78, 79, 80, 81, 82, 83, 84, 85, 86, 87, 88, 89, 90, 102, 103, 104, 105, 106, 107, 108, 109, 110, 111, 112, 113, 117, 118, 119, 120, 121, 122, 123, 124, 125, 126, 127, 128, 129, 130, 131, 132, 133] (by decide +kernel) (by decide +kernel)
set_option maxRecDepth 20000 in
theorem gX8_map_X8_lightAll : GoodIn wsX8_map (wsV RX8 95 RX8 yX8_lightAll wsX8_lightAll) := goodIn_app (goodIn_of _ (by decide +kernel)) ggX8_map_X8_lightAll
set_option maxRecDepth 20000 in
theorem ggX8_map_X3_places : GoodIn wsX8_map wsX3_places := goodIn_r _ [94, 95, 96, 64, 50, 65, 114, 115, 116] (by decide +kernel) (by decide +kernel)
set_option maxRecDepth 20000 in
theorem gX8_map_X3_places : GoodIn wsX8_map (wsV RX8 296 RX3 yX3_places wsX3_places) := goodIn_app (goodIn_of _ (by decide +kernel)) ggX8_map_X3_places
set_option maxRecDepth 20000 in
theorem ggX8_map_X3_put : GoodIn wsX8_map wsX3_put := goodIn_r _ [100, 22, 101, 114, 115, 116] (by decide +kernel) (by decide +kernel)
set_option maxRecDepth 20000 in
theorem gX8_map_X3_put : GoodIn wsX8_map (wsV RX8 280 RX3 yX3_put wsX3_put) := goodIn_app (goodIn_of _ (by decide +kernel)) ggX8_map_X3_put
theorem dX8_map_0 : decode cX8_map 0 = .ok (.iload_n 1, 1) := by decide +kernel
theorem dX8_map_1 : decode cX8_map 1 = .ok (.invokestatic 264, 3) := by decide +kernel
theorem dX8_map_4 : decode cX8_map 4 = .ok (.ifCond .ne 10, 3) := by decide +kernel
theorem dX8_map_7 : decode cX8_map 7 = .ok (.aload_n 0, 1) := by decide +kernel
theorem dX8_map_8 : decode cX8_map 8 = .ok (.ldc 83, 2) := by decide +kernel
theorem dX8_map_10 : decode cX8_map 10 = .ok (.invokevirtual 84, 3) := by decide +kernel
theorem dX8_map_13 : decode cX8_map 13 = .ok (.ireturn, 1) := by decide +kernel
theorem dX8_map_14 : decode cX8_map 14 = .ok (.aload_n 0, 1) := by decide +kernel
theorem dX8_map_15 : decode cX8_map 15 = .ok (.getfield 49, 3) := by decide +kernel
theorem dX8_map_18 : decode cX8_map 18 = .ok (.iload_n 1, 1) := by decide +kernel
theorem dX8_map_19 : decode cX8_map 19 = .ok (.aaload, 1) := by decide +kernel
theorem dX8_map_20 : decode cX8_map 20 = .ok (.astore_n 2, 1) := by decide +kernel
theorem dX8_map_21 : decode cX8_map 21 = .ok (.aload_n 2, 1) := by decide +kernel
theorem dX8_map_22 : decode cX8_map 22 = .ok (.invokevirtual 272, 3) := by decide +kernel
theorem dX8_map_25 : decode cX8_map 25 = .ok (.ifCond .eq 11, 3) := by decide +kernel
theorem dX8_map_28 : decode cX8_map 28 = .ok (.aload_n 0, 1) := by decide +kernel
theorem dX8_map_29 : decode cX8_map 29 = .ok (.ldc_w 275, 3) := by decide +kernel
theorem dX8_map_32 : decode cX8_map 32 = .ok (.invokevirtual 84, 3) := by decide +kernel
theorem dX8_map_35 : decode cX8_map 35 = .ok (.ireturn, 1) := by decide +kernel
theorem dX8_map_36 : decode cX8_map 36 = .ok (.aload_n 0, 1) := by decide +kernel
theorem dX8_map_37 : decode cX8_map 37 = .ok (.invokevirtual 95, 3) := by decide +kernel
theorem dX8_map_40 : decode cX8_map 40 = .ok (.iconst 0, 1) := by decide +kernel
theorem dX8_map_41 : decode cX8_map 41 = .ok (.istore_n 3, 1) := by decide +kernel
theorem dX8_map_42 : decode cX8_map 42 = .ok (.iload_n 3, 1) := by decide +kernel
theorem dX8_map_43 : decode cX8_map 43 = .ok (.aload_n 2, 1) := by decide +kernel
theorem dX8_map_44 : decode cX8_map 44 = .ok (.invokevirtual 296, 3) := by decide +kernel
theorem dX8_map_47 : decode cX8_map 47 = .ok (.if_icmp .ge 21, 3) := by decide +kernel
theorem dX8_map_50 : decode cX8_map 50 = .ok (.aload_n 2, 1) := by decide +kernel
theorem dX8_map_51 : decode cX8_map 51 = .ok (.iload_n 3, 1) := by decide +kernel
theorem dX8_map_52 : decode cX8_map 52 = .ok (.aload_n 0, 1) := by decide +kernel
theorem dX8_map_53 : decode cX8_map 53 = .ok (.getfield 68, 3) := by decide +kernel
theorem dX8_map_56 : decode cX8_map 56 = .ok (.iload_n 3, 1) := by decide +kernel
theorem dX8_map_57 : decode cX8_map 57 = .ok (.iaload, 1) := by decide +kernel
theorem dX8_map_58 : decode cX8_map 58 = .ok (.i2l, 1) := by decide +kernel
theorem dX8_map_59 : decode cX8_map 59 = .ok (.invokevirtual 280, 3) := by decide +kernel
theorem dX8_map_62 : decode cX8_map 62 = .ok (.iinc 3 1, 3) := by decide +kernel
theorem dX8_map_65 : decode cX8_map 65 = .ok (.goto (-23), 3) := by decide +kernel
theorem dX8_map_68 : decode cX8_map 68 = .ok (.aload_n 2, 1) := by decide +kernel
theorem dX8_map_69 : decode cX8_map 69 = .ok (.invokevirtual 296, 3) := by decide +kernel
theorem dX8_map_72 : decode cX8_map 72 = .ok (.ireturn, 1) := by decide +kernel
set_option maxRecDepth 20000 in
theorem ggX8_read_X8_isSheet : GoodIn wsX8_read wsX8_isSheet := goodIn_r _ [10, 11, 12, 9, 13] (by decide +kernel) (by decide +kernel)
set_option maxRecDepth 20000 in
theorem gX8_read_X8_isSheet : GoodIn wsX8_read (va_wsS RX8 264 yX8_isSheet wsX8_isSheet) := goodIn_app (goodIn_of _ (by decide +kernel)) ggX8_read_X8_isSheet
set_option maxRecDepth 20000 in
theorem ggX8_read_X8_found : GoodIn wsX8_read wsX8_found := goodIn_r _ [17, 1, 18, 11, 12, 9, 13, 110, 111, 112, 113, 114, 115, 116, 117, 118, 119, 120, 121] (by decide +kernel) (by decide +kernel)
set_option maxRecDepth 20000 in
theorem gX8_read_X8_found : GoodIn wsX8_read (wsV RX8 84 RX8 yX8_found wsX8_found) := goodIn_app (goodIn_of _ (by decide +kernel)) ggX8_read_X8_found
set_option maxRecDepth 20000 in
theorem ggX8_read_X3_isMissing : GoodIn wsX8_read wsX3_isMissing := goodIn_r _ [23, 24, 122, 123, 124] (by decide +kernel) (by decide +kernel)
set_option maxRecDepth 20000 in
theorem gX8_read_X3_isMissing : GoodIn wsX8_read (wsV RX8 272 RX3 yX3_isMissing wsX3_isMissing) := goodIn_app (goodIn_of _ (by decide +kernel)) ggX8_read_X3_isMissing
set_option maxRecDepth 20000 in
theorem ggX8_read_X0_settleOn : GoodIn wsX8_read wsX0_settleOn := goodIn_r _ [29, 30, 31, 32, 33, 34, 35, 36, 37, 38, 39, 40, 41, 42, 43, 44, 45, 46, 47, 48, 49, 50, 51, 52, 53, 54, 55, 56, 57, 9, 58, 59, 60, 61, 62, 63, 64, 65, 66, 67, 68, 69, 70, 71, 72, 73, 28, 74, 75, 125, 126, 127, 128, 129, 130, 131, 132, 133, 134, 135, 136, 137, 138, 139, 140, 141] (by decide +kernel) (by decide +kernel)
set_option maxRecDepth 20000 in
theorem gX8_read_X0_settleOn : GoodIn wsX8_read (wsV RX8 149 RX0 yX0_settleOn wsX0_settleOn) := goodIn_app (goodIn_of _ (by decide +kernel)) ggX8_read_X0_settleOn
set_option maxRecDepth 20000 in
theorem ggX8_read_X1_countSets : GoodIn wsX8_read wsX1_countSets := goodIn_r _ [80, 81, 82, 83, 84, 85, 86, 87, 88, 22, 89, 90, 91, 60, 46, 61, 92, 93, 94, 28, 95, 36, 34, 96, 9, 97, 98, 55, 56, 99, 100, 101, 79, 102, 103, 104, 105, 106, 107, 108, 109, 142, 143, 122, 123, 124, 137, 138, 139, 140, 141] (by decide +kernel) (by decide +kernel)
set_option maxRecDepth 20000 in
theorem gX8_read_X1_countSets : GoodIn wsX8_read (wsV RX8 301 RX1 yX1_countSets wsX1_countSets) := goodIn_app (goodIn_of _ (by decide +kernel)) ggX8_read_X1_countSets
theorem dX8_read_0 : decode cX8_read 0 = .ok (.iload_n 1, 1) := by decide +kernel
theorem dX8_read_1 : decode cX8_read 1 = .ok (.invokestatic 264, 3) := by decide +kernel
theorem dX8_read_4 : decode cX8_read 4 = .ok (.ifCond .ne 10, 3) := by decide +kernel
theorem dX8_read_7 : decode cX8_read 7 = .ok (.aload_n 0, 1) := by decide +kernel
theorem dX8_read_8 : decode cX8_read 8 = .ok (.ldc 83, 2) := by decide +kernel
theorem dX8_read_10 : decode cX8_read 10 = .ok (.invokevirtual 84, 3) := by decide +kernel
theorem dX8_read_13 : decode cX8_read 13 = .ok (.ireturn, 1) := by decide +kernel
theorem dX8_read_14 : decode cX8_read 14 = .ok (.aload_n 0, 1) := by decide +kernel
theorem dX8_read_15 : decode cX8_read 15 = .ok (.getfield 49, 3) := by decide +kernel
theorem dX8_read_18 : decode cX8_read 18 = .ok (.iload_n 1, 1) := by decide +kernel
theorem dX8_read_19 : decode cX8_read 19 = .ok (.aaload, 1) := by decide +kernel
theorem dX8_read_20 : decode cX8_read 20 = .ok (.invokevirtual 272, 3) := by decide +kernel
theorem dX8_read_23 : decode cX8_read 23 = .ok (.ifCond .eq 11, 3) := by decide +kernel
theorem dX8_read_26 : decode cX8_read 26 = .ok (.aload_n 0, 1) := by decide +kernel
theorem dX8_read_27 : decode cX8_read 27 = .ok (.ldc_w 275, 3) := by decide +kernel
theorem dX8_read_30 : decode cX8_read 30 = .ok (.invokevirtual 84, 3) := by decide +kernel
theorem dX8_read_33 : decode cX8_read 33 = .ok (.ireturn, 1) := by decide +kernel
theorem dX8_read_34 : decode cX8_read 34 = .ok (.aload_n 0, 1) := by decide +kernel
theorem dX8_read_35 : decode cX8_read 35 = .ok (.getfield 29, 3) := by decide +kernel
theorem dX8_read_38 : decode cX8_read 38 = .ok (.aload_n 0, 1) := by decide +kernel
theorem dX8_read_39 : decode cX8_read 39 = .ok (.getfield 10, 3) := by decide +kernel
theorem dX8_read_42 : decode cX8_read 42 = .ok (.iconst 0, 1) := by decide +kernel
theorem dX8_read_43 : decode cX8_read 43 = .ok (.invokevirtual 149, 3) := by decide +kernel
theorem dX8_read_46 : decode cX8_read 46 = .ok (.aload_n 0, 1) := by decide +kernel
theorem dX8_read_47 : decode cX8_read 47 = .ok (.getfield 57, 3) := by decide +kernel
theorem dX8_read_50 : decode cX8_read 50 = .ok (.aload_n 0, 1) := by decide +kernel
theorem dX8_read_51 : decode cX8_read 51 = .ok (.getfield 29, 3) := by decide +kernel
theorem dX8_read_54 : decode cX8_read 54 = .ok (.aload_n 0, 1) := by decide +kernel
theorem dX8_read_55 : decode cX8_read 55 = .ok (.getfield 49, 3) := by decide +kernel
theorem dX8_read_58 : decode cX8_read 58 = .ok (.iload_n 1, 1) := by decide +kernel
theorem dX8_read_59 : decode cX8_read 59 = .ok (.aaload, 1) := by decide +kernel
theorem dX8_read_60 : decode cX8_read 60 = .ok (.invokevirtual 301, 3) := by decide +kernel
theorem dX8_read_63 : decode cX8_read 63 = .ok (.ireturn, 1) := by decide +kernel
set_option maxRecDepth 20000 in
theorem ggX8_image_X7_becomeAs : GoodIn wsX8_image wsX7_becomeAs := goodIn_r _ [8, 9, 10, 11, 12, 13, 14, 15, 16, 17, 18, 19, 20, 21, 22, 23, 24, 37, 38, 39, 40, 41, 42, 43, 44, 45, 46, 47, 48] (by decide +kernel) (by decide +kernel)
set_option maxRecDepth 20000 in
theorem gX8_image_X7_becomeAs : GoodIn wsX8_image (wsV RX8 233 RX7 yX7_becomeAs wsX7_becomeAs) := goodIn_app (goodIn_of _ (by decide +kernel)) ggX8_image_X7_becomeAs
theorem dX8_image_0 : decode cX8_image 0 = .ok (.aload_n 0, 1) := by decide +kernel
theorem dX8_image_1 : decode cX8_image 1 = .ok (.getfield 16, 3) := by decide +kernel
theorem dX8_image_4 : decode cX8_image 4 = .ok (.aload_n 0, 1) := by decide +kernel
theorem dX8_image_5 : decode cX8_image 5 = .ok (.getfield 10, 3) := by decide +kernel
theorem dX8_image_8 : decode cX8_image 8 = .ok (.invokevirtual 233, 3) := by decide +kernel
theorem dX8_image_11 : decode cX8_image 11 = .ok (.aload_n 0, 1) := by decide +kernel
theorem dX8_image_12 : decode cX8_image 12 = .ok (.iconst 1, 1) := by decide +kernel
theorem dX8_image_13 : decode cX8_image 13 = .ok (.putfield 22, 3) := by decide +kernel
theorem dX8_image_16 : decode cX8_image 16 = .ok (.iconst 1, 1) := by decide +kernel
theorem dX8_image_17 : decode cX8_image 17 = .ok (.ireturn, 1) := by decide +kernel
set_option maxRecDepth 20000 in
theorem ggX8_undo_X8_found : GoodIn wsX8_undo wsX8_found := goodIn_r _ [10, 11, 12, 13, 14, 9, 15, 37, 38, 39, 40, 41, 42, 43, 44, 45, 46, 47, 48] (by decide +kernel) (by decide +kernel)
set_option maxRecDepth 20000 in
theorem gX8_undo_X8_found : GoodIn wsX8_undo (wsV RX8 84 RX8 yX8_found wsX8_found) := goodIn_app (goodIn_of _ (by decide +kernel)) ggX8_undo_X8_found
set_option maxRecDepth 20000 in
theorem ggX8_undo_X7_becomeAs : GoodIn wsX8_undo wsX7_becomeAs := goodIn_r _ [20, 21, 22, 23, 24, 25, 26, 27, 28, 29, 30, 31, 32, 33, 34, 35, 36, 49, 50, 51, 52, 53, 54, 55, 56, 57, 58, 59, 60] (by decide +kernel) (by decide +kernel)
set_option maxRecDepth 20000 in
theorem gX8_undo_X7_becomeAs : GoodIn wsX8_undo (wsV RX8 233 RX7 yX7_becomeAs wsX7_becomeAs) := goodIn_app (goodIn_of _ (by decide +kernel)) ggX8_undo_X7_becomeAs
theorem dX8_undo_0 : decode cX8_undo 0 = .ok (.aload_n 0, 1) := by decide +kernel
theorem dX8_undo_1 : decode cX8_undo 1 = .ok (.getfield 22, 3) := by decide +kernel
theorem dX8_undo_4 : decode cX8_undo 4 = .ok (.ifCond .ne 10, 3) := by decide +kernel
theorem dX8_undo_7 : decode cX8_undo 7 = .ok (.aload_n 0, 1) := by decide +kernel
theorem dX8_undo_8 : decode cX8_undo 8 = .ok (.ldc 208, 2) := by decide +kernel
theorem dX8_undo_10 : decode cX8_undo 10 = .ok (.invokevirtual 84, 3) := by decide +kernel
theorem dX8_undo_13 : decode cX8_undo 13 = .ok (.ireturn, 1) := by decide +kernel
theorem dX8_undo_14 : decode cX8_undo 14 = .ok (.aload_n 0, 1) := by decide +kernel
theorem dX8_undo_15 : decode cX8_undo 15 = .ok (.getfield 10, 3) := by decide +kernel
theorem dX8_undo_18 : decode cX8_undo 18 = .ok (.aload_n 0, 1) := by decide +kernel
theorem dX8_undo_19 : decode cX8_undo 19 = .ok (.getfield 16, 3) := by decide +kernel
theorem dX8_undo_22 : decode cX8_undo 22 = .ok (.invokevirtual 233, 3) := by decide +kernel
theorem dX8_undo_25 : decode cX8_undo 25 = .ok (.aload_n 0, 1) := by decide +kernel
theorem dX8_undo_26 : decode cX8_undo 26 = .ok (.getfield 10, 3) := by decide +kernel
theorem dX8_undo_29 : decode cX8_undo 29 = .ok (.getfield 101, 3) := by decide +kernel
theorem dX8_undo_32 : decode cX8_undo 32 = .ok (.ireturn, 1) := by decide +kernel
theorem dX8_tear_0 : decode cX8_tear 0 = .ok (.aload_n 0, 1) := by decide +kernel
theorem dX8_tear_1 : decode cX8_tear 1 = .ok (.getfield 22, 3) := by decide +kernel
theorem dX8_tear_4 : decode cX8_tear 4 = .ok (.ifCond .eq 7, 3) := by decide +kernel
theorem dX8_tear_7 : decode cX8_tear 7 = .ok (.iconst 1, 1) := by decide +kernel
theorem dX8_tear_8 : decode cX8_tear 8 = .ok (.goto 4, 3) := by decide +kernel
theorem dX8_tear_11 : decode cX8_tear 11 = .ok (.iconst 0, 1) := by decide +kernel
theorem dX8_tear_12 : decode cX8_tear 12 = .ok (.istore_n 1, 1) := by decide +kernel
theorem dX8_tear_13 : decode cX8_tear 13 = .ok (.aload_n 0, 1) := by decide +kernel
theorem dX8_tear_14 : decode cX8_tear 14 = .ok (.iconst 0, 1) := by decide +kernel
theorem dX8_tear_15 : decode cX8_tear 15 = .ok (.putfield 22, 3) := by decide +kernel
theorem dX8_tear_18 : decode cX8_tear 18 = .ok (.iload_n 1, 1) := by decide +kernel
theorem dX8_tear_19 : decode cX8_tear 19 = .ok (.ireturn, 1) := by decide +kernel
set_option maxRecDepth 20000 in
theorem ggX8_count_X8_sumOf : GoodIn wsX8_count wsX8_sumOf := goodIn_r _ [11] (by decide +kernel) (by decide +kernel)
set_option maxRecDepth 20000 in
theorem gX8_count_X8_sumOf : GoodIn wsX8_count (va_wsS RX8 194 yX8_sumOf wsX8_sumOf) := goodIn_app (goodIn_of _ (by decide +kernel)) ggX8_count_X8_sumOf
set_option maxRecDepth 20000 in
theorem ggX8_count_X8_found : GoodIn wsX8_count wsX8_found := goodIn_r _ [15, 7, 16, 17, 18, 10, 19, 20, 21, 22, 23, 24, 25, 26, 27, 28, 29, 30, 31] (by decide +kernel) (by decide +kernel)
set_option maxRecDepth 20000 in
theorem gX8_count_X8_found : GoodIn wsX8_count (wsV RX8 84 RX8 yX8_found wsX8_found) := goodIn_app (goodIn_of _ (by decide +kernel)) ggX8_count_X8_found
theorem dX8_count_0 : decode cX8_count 0 = .ok (.iload_n 1, 1) := by decide +kernel
theorem dX8_count_1 : decode cX8_count 1 = .ok (.tableswitch 73 0 3 #[31, 39, 47, 55], 31) := by decide +kernel
theorem dX8_count_32 : decode cX8_count 32 = .ok (.aload_n 0, 1) := by decide +kernel
theorem dX8_count_33 : decode cX8_count 33 = .ok (.getfield 10, 3) := by decide +kernel
theorem dX8_count_36 : decode cX8_count 36 = .ok (.getfield 101, 3) := by decide +kernel
theorem dX8_count_39 : decode cX8_count 39 = .ok (.ireturn, 1) := by decide +kernel
theorem dX8_count_40 : decode cX8_count 40 = .ok (.aload_n 0, 1) := by decide +kernel
theorem dX8_count_41 : decode cX8_count 41 = .ok (.getfield 10, 3) := by decide +kernel
theorem dX8_count_44 : decode cX8_count 44 = .ok (.getfield 156, 3) := by decide +kernel
theorem dX8_count_47 : decode cX8_count 47 = .ok (.ireturn, 1) := by decide +kernel
theorem dX8_count_48 : decode cX8_count 48 = .ok (.aload_n 0, 1) := by decide +kernel
theorem dX8_count_49 : decode cX8_count 49 = .ok (.getfield 36, 3) := by decide +kernel
theorem dX8_count_52 : decode cX8_count 52 = .ok (.getfield 248, 3) := by decide +kernel
theorem dX8_count_55 : decode cX8_count 55 = .ok (.ireturn, 1) := by decide +kernel
theorem dX8_count_56 : decode cX8_count 56 = .ok (.aload_n 0, 1) := by decide +kernel
theorem dX8_count_57 : decode cX8_count 57 = .ok (.getfield 10, 3) := by decide +kernel
theorem dX8_count_60 : decode cX8_count 60 = .ok (.getfield 121, 3) := by decide +kernel
theorem dX8_count_63 : decode cX8_count 63 = .ok (.aload_n 0, 1) := by decide +kernel
theorem dX8_count_64 : decode cX8_count 64 = .ok (.getfield 10, 3) := by decide +kernel
theorem dX8_count_67 : decode cX8_count 67 = .ok (.getfield 101, 3) := by decide +kernel
theorem dX8_count_70 : decode cX8_count 70 = .ok (.invokestatic 194, 3) := by decide +kernel
theorem dX8_count_73 : decode cX8_count 73 = .ok (.ireturn, 1) := by decide +kernel
theorem dX8_count_74 : decode cX8_count 74 = .ok (.aload_n 0, 1) := by decide +kernel
theorem dX8_count_75 : decode cX8_count 75 = .ok (.ldc 83, 2) := by decide +kernel
theorem dX8_count_77 : decode cX8_count 77 = .ok (.invokevirtual 84, 3) := by decide +kernel
theorem dX8_count_80 : decode cX8_count 80 = .ok (.ireturn, 1) := by decide +kernel
set_option maxRecDepth 20000 in
theorem ggX8_status_X8_within : GoodIn wsX8_status wsX8_within := goodIn_r _ [6] (by decide +kernel) (by decide +kernel)
set_option maxRecDepth 20000 in
theorem gX8_status_X8_within : GoodIn wsX8_status (va_wsS RX8 79 yX8_within wsX8_within) := goodIn_app (goodIn_of _ (by decide +kernel)) ggX8_status_X8_within
set_option maxRecDepth 20000 in
theorem ggX8_status_X8_found : GoodIn wsX8_status wsX8_found := goodIn_r _ [10, 1, 2, 3, 4, 5, 6, 14, 15, 16, 17, 18, 19, 20, 21, 22, 23, 24, 25] (by decide +kernel) (by decide +kernel)
set_option maxRecDepth 20000 in
theorem gX8_status_X8_found : GoodIn wsX8_status (wsV RX8 84 RX8 yX8_found wsX8_found) := goodIn_app (goodIn_of _ (by decide +kernel)) ggX8_status_X8_found
set_option maxRecDepth 20000 in
theorem ggX8_status_X8_sumOf : GoodIn wsX8_status wsX8_sumOf := goodIn_r _ [13] (by decide +kernel) (by decide +kernel)
set_option maxRecDepth 20000 in
theorem gX8_status_X8_sumOf : GoodIn wsX8_status (va_wsS RX8 194 yX8_sumOf wsX8_sumOf) := goodIn_app (goodIn_of _ (by decide +kernel)) ggX8_status_X8_sumOf
theorem dX8_status_0 : decode cX8_status 0 = .ok (.iload_n 1, 1) := by decide +kernel
theorem dX8_status_1 : decode cX8_status 1 = .ok (.iconst (-1), 1) := by decide +kernel
theorem dX8_status_2 : decode cX8_status 2 = .ok (.bipush 6, 2) := by decide +kernel
theorem dX8_status_4 : decode cX8_status 4 = .ok (.invokestatic 79, 3) := by decide +kernel
theorem dX8_status_7 : decode cX8_status 7 = .ok (.ifCond .ne 10, 3) := by decide +kernel
theorem dX8_status_10 : decode cX8_status 10 = .ok (.aload_n 0, 1) := by decide +kernel
theorem dX8_status_11 : decode cX8_status 11 = .ok (.ldc 83, 2) := by decide +kernel
theorem dX8_status_13 : decode cX8_status 13 = .ok (.invokevirtual 84, 3) := by decide +kernel
theorem dX8_status_16 : decode cX8_status 16 = .ok (.ireturn, 1) := by decide +kernel
theorem dX8_status_17 : decode cX8_status 17 = .ok (.iload_n 1, 1) := by decide +kernel
theorem dX8_status_18 : decode cX8_status 18 = .ok (.ifCond .lt 10, 3) := by decide +kernel
theorem dX8_status_21 : decode cX8_status 21 = .ok (.aload_n 0, 1) := by decide +kernel
theorem dX8_status_22 : decode cX8_status 22 = .ok (.getfield 72, 3) := by decide +kernel
theorem dX8_status_25 : decode cX8_status 25 = .ok (.iload_n 1, 1) := by decide +kernel
theorem dX8_status_26 : decode cX8_status 26 = .ok (.iaload, 1) := by decide +kernel
theorem dX8_status_27 : decode cX8_status 27 = .ok (.ireturn, 1) := by decide +kernel
theorem dX8_status_28 : decode cX8_status 28 = .ok (.aload_n 0, 1) := by decide +kernel
theorem dX8_status_29 : decode cX8_status 29 = .ok (.getfield 72, 3) := by decide +kernel
theorem dX8_status_32 : decode cX8_status 32 = .ok (.bipush 7, 2) := by decide +kernel
theorem dX8_status_34 : decode cX8_status 34 = .ok (.invokestatic 194, 3) := by decide +kernel
theorem dX8_status_37 : decode cX8_status 37 = .ok (.ireturn, 1) := by decide +kernel
set_option maxRecDepth 20000 in
theorem ggX8_found_X8_within : GoodIn wsX8_found wsX8_within := goodIn_r _ [6] (by decide +kernel) (by decide +kernel)
set_option maxRecDepth 20000 in
theorem gX8_found_X8_within : GoodIn wsX8_found (va_wsS RX8 79 yX8_within wsX8_within) := goodIn_app (goodIn_of _ (by decide +kernel)) ggX8_found_X8_within
theorem dX8_found_0 : decode cX8_found 0 = .ok (.ldc 83, 2) := by decide +kernel
theorem dX8_found_2 : decode cX8_found 2 = .ok (.iload_n 1, 1) := by decide +kernel
theorem dX8_found_3 : decode cX8_found 3 = .ok (.isub, 1) := by decide +kernel
theorem dX8_found_4 : decode cX8_found 4 = .ok (.istore_n 2, 1) := by decide +kernel
theorem dX8_found_5 : decode cX8_found 5 = .ok (.iload_n 2, 1) := by decide +kernel
theorem dX8_found_6 : decode cX8_found 6 = .ok (.iconst 0, 1) := by decide +kernel
theorem dX8_found_7 : decode cX8_found 7 = .ok (.bipush 6, 2) := by decide +kernel
theorem dX8_found_9 : decode cX8_found 9 = .ok (.invokestatic 79, 3) := by decide +kernel
theorem dX8_found_12 : decode cX8_found 12 = .ok (.ifCond .eq 13, 3) := by decide +kernel
theorem dX8_found_15 : decode cX8_found 15 = .ok (.aload_n 0, 1) := by decide +kernel
theorem dX8_found_16 : decode cX8_found 16 = .ok (.getfield 72, 3) := by decide +kernel
theorem dX8_found_19 : decode cX8_found 19 = .ok (.iload_n 2, 1) := by decide +kernel
theorem dX8_found_20 : decode cX8_found 20 = .ok (.dup2, 1) := by decide +kernel
theorem dX8_found_21 : decode cX8_found 21 = .ok (.iaload, 1) := by decide +kernel
theorem dX8_found_22 : decode cX8_found 22 = .ok (.iconst 1, 1) := by decide +kernel
theorem dX8_found_23 : decode cX8_found 23 = .ok (.iadd, 1) := by decide +kernel
theorem dX8_found_24 : decode cX8_found 24 = .ok (.iastore, 1) := by decide +kernel
theorem dX8_found_25 : decode cX8_found 25 = .ok (.iload_n 1, 1) := by decide +kernel
theorem dX8_found_26 : decode cX8_found 26 = .ok (.ireturn, 1) := by decide +kernel
theorem dX8_mostOf_0 : decode cX8_mostOf 0 = .ok (.iload_n 1, 1) := by decide +kernel
theorem dX8_mostOf_1 : decode cX8_mostOf 1 = .ok (.lookupswitch 34 #[(3, 27), (4, 30)], 27) := by decide +kernel
theorem dX8_mostOf_28 : decode cX8_mostOf 28 = .ok (.bipush 99, 2) := by decide +kernel
theorem dX8_mostOf_30 : decode cX8_mostOf 30 = .ok (.ireturn, 1) := by decide +kernel
theorem dX8_mostOf_31 : decode cX8_mostOf 31 = .ok (.sipush 999, 3) := by decide +kernel
theorem dX8_mostOf_34 : decode cX8_mostOf 34 = .ok (.ireturn, 1) := by decide +kernel
theorem dX8_mostOf_35 : decode cX8_mostOf 35 = .ok (.bipush 15, 2) := by decide +kernel
theorem dX8_mostOf_37 : decode cX8_mostOf 37 = .ok (.ireturn, 1) := by decide +kernel
theorem dX8_rowOf_0 : decode cX8_rowOf 0 = .ok (.iload_n 1, 1) := by decide +kernel
theorem dX8_rowOf_1 : decode cX8_rowOf 1 = .ok (.tableswitch 51 1 3 #[27, 35, 43], 27) := by decide +kernel
theorem dX8_rowOf_28 : decode cX8_rowOf 28 = .ok (.aload_n 0, 1) := by decide +kernel
theorem dX8_rowOf_29 : decode cX8_rowOf 29 = .ok (.getfield 10, 3) := by decide +kernel
theorem dX8_rowOf_32 : decode cX8_rowOf 32 = .ok (.getfield 115, 3) := by decide +kernel
theorem dX8_rowOf_35 : decode cX8_rowOf 35 = .ok (.areturn, 1) := by decide +kernel
theorem dX8_rowOf_36 : decode cX8_rowOf 36 = .ok (.aload_n 0, 1) := by decide +kernel
theorem dX8_rowOf_37 : decode cX8_rowOf 37 = .ok (.getfield 10, 3) := by decide +kernel
theorem dX8_rowOf_40 : decode cX8_rowOf 40 = .ok (.getfield 118, 3) := by decide +kernel
theorem dX8_rowOf_43 : decode cX8_rowOf 43 = .ok (.areturn, 1) := by decide +kernel
theorem dX8_rowOf_44 : decode cX8_rowOf 44 = .ok (.aload_n 0, 1) := by decide +kernel
theorem dX8_rowOf_45 : decode cX8_rowOf 45 = .ok (.getfield 10, 3) := by decide +kernel
theorem dX8_rowOf_48 : decode cX8_rowOf 48 = .ok (.getfield 121, 3) := by decide +kernel
theorem dX8_rowOf_51 : decode cX8_rowOf 51 = .ok (.areturn, 1) := by decide +kernel
theorem dX8_rowOf_52 : decode cX8_rowOf 52 = .ok (.aload_n 0, 1) := by decide +kernel
theorem dX8_rowOf_53 : decode cX8_rowOf 53 = .ok (.getfield 10, 3) := by decide +kernel
theorem dX8_rowOf_56 : decode cX8_rowOf 56 = .ok (.getfield 124, 3) := by decide +kernel
theorem dX8_rowOf_59 : decode cX8_rowOf 59 = .ok (.areturn, 1) := by decide +kernel
set_option maxRecDepth 20000 in
theorem ggX8_lightOn_X0_settleOn : GoodIn wsX8_lightOn wsX0_settleOn := goodIn_r _ [7, 8, 9, 10, 11, 12, 13, 14, 15, 16, 17, 18, 19, 20, 21, 22, 23, 24, 25, 26, 27, 28, 29, 30, 31, 32, 33, 34, 35, 36, 37, 38, 39, 40, 41, 42, 43, 44, 45, 46, 47, 48, 49, 50, 51, 52, 6, 53, 54, 78, 79, 80, 81, 82, 83, 84, 85, 86, 87, 88, 89, 90, 91, 92, 93, 94] (by decide +kernel) (by decide +kernel)
set_option maxRecDepth 20000 in
theorem gX8_lightOn_X0_settleOn : GoodIn wsX8_lightOn (wsV RX8 149 RX0 yX0_settleOn wsX0_settleOn) := goodIn_app (goodIn_of _ (by decide +kernel)) ggX8_lightOn_X0_settleOn
set_option maxRecDepth 20000 in
theorem ggX8_lightOn_X0_lightOf : GoodIn wsX8_lightOn wsX0_lightOf := goodIn_r _ [58, 10, 9, 59, 60, 61, 6, 62, 14, 12, 63, 36, 64, 65, 33, 24, 34, 90, 91, 92, 93, 94] (by decide +kernel) (by decide +kernel)
set_option maxRecDepth 20000 in
theorem gX8_lightOn_X0_lightOf : GoodIn wsX8_lightOn (wsV RX8 245 RX0 yX0_lightOf wsX0_lightOf) := goodIn_app (goodIn_of _ (by decide +kernel)) ggX8_lightOn_X0_lightOf
theorem dX8_lightOn_0 : decode cX8_lightOn 0 = .ok (.aload_n 0, 1) := by decide +kernel
theorem dX8_lightOn_1 : decode cX8_lightOn 1 = .ok (.getfield 29, 3) := by decide +kernel
theorem dX8_lightOn_4 : decode cX8_lightOn 4 = .ok (.aload_n 0, 1) := by decide +kernel
theorem dX8_lightOn_5 : decode cX8_lightOn 5 = .ok (.getfield 10, 3) := by decide +kernel
theorem dX8_lightOn_8 : decode cX8_lightOn 8 = .ok (.iload_n 2, 1) := by decide +kernel
theorem dX8_lightOn_9 : decode cX8_lightOn 9 = .ok (.invokevirtual 149, 3) := by decide +kernel
theorem dX8_lightOn_12 : decode cX8_lightOn 12 = .ok (.aload_n 0, 1) := by decide +kernel
theorem dX8_lightOn_13 : decode cX8_lightOn 13 = .ok (.getfield 29, 3) := by decide +kernel
theorem dX8_lightOn_16 : decode cX8_lightOn 16 = .ok (.iload_n 1, 1) := by decide +kernel
theorem dX8_lightOn_17 : decode cX8_lightOn 17 = .ok (.invokevirtual 245, 3) := by decide +kernel
theorem dX8_lightOn_20 : decode cX8_lightOn 20 = .ok (.ireturn, 1) := by decide +kernel
set_option maxRecDepth 20000 in
theorem ggX8_lightAll_X0_settleOn : GoodIn wsX8_lightAll wsX0_settleOn := goodIn_r _ [8, 9, 10, 11, 12, 13, 14, 15, 16, 17, 18, 19, 20, 21, 22, 23, 24, 25, 26, 27, 28, 29, 30, 31, 32, 33, 34, 35, 36, 37, 38, 39, 40, 41, 42, 43, 44, 45, 46, 47, 48, 49, 50, 51, 52, 53, 7, 54, 55, 79, 80, 81, 82, 83, 84, 85, 86, 87, 88, 89, 90, 91, 92, 93, 94, 95] (by decide +kernel) (by decide +kernel)
set_option maxRecDepth 20000 in
theorem gX8_lightAll_X0_settleOn : GoodIn wsX8_lightAll (wsV RX8 149 RX0 yX0_settleOn wsX0_settleOn) := goodIn_app (goodIn_of _ (by decide +kernel)) ggX8_lightAll_X0_settleOn
set_option maxRecDepth 20000 in
theorem ggX8_lightAll_X0_lightOf : GoodIn wsX8_lightAll wsX0_lightOf := goodIn_r _ [59, 11, 10, 60, 61, 62, 7, 63, 15, 13, 64, 37, 65, 66, 34, 25, 35, 91, 92, 93, 94, 95] (by decide +kernel) (by decide +kernel)
set_option maxRecDepth 20000 in
theorem gX8_lightAll_X0_lightOf : GoodIn wsX8_lightAll (wsV RX8 245 RX0 yX0_lightOf wsX0_lightOf) := goodIn_app (goodIn_of _ (by decide +kernel)) ggX8_lightAll_X0_lightOf
theorem dX8_lightAll_0 : decode cX8_lightAll 0 = .ok (.aload_n 0, 1) := by decide +kernel
theorem dX8_lightAll_1 : decode cX8_lightAll 1 = .ok (.getfield 29, 3) := by decide +kernel
theorem dX8_lightAll_4 : decode cX8_lightAll 4 = .ok (.aload_n 0, 1) := by decide +kernel
theorem dX8_lightAll_5 : decode cX8_lightAll 5 = .ok (.getfield 10, 3) := by decide +kernel
theorem dX8_lightAll_8 : decode cX8_lightAll 8 = .ok (.iconst 0, 1) := by decide +kernel
theorem dX8_lightAll_9 : decode cX8_lightAll 9 = .ok (.invokevirtual 149, 3) := by decide +kernel
theorem dX8_lightAll_12 : decode cX8_lightAll 12 = .ok (.iconst 0, 1) := by decide +kernel
theorem dX8_lightAll_13 : decode cX8_lightAll 13 = .ok (.istore_n 1, 1) := by decide +kernel
theorem dX8_lightAll_14 : decode cX8_lightAll 14 = .ok (.iload_n 1, 1) := by decide +kernel
theorem dX8_lightAll_15 : decode cX8_lightAll 15 = .ok (.bipush 16, 2) := by decide +kernel
theorem dX8_lightAll_17 : decode cX8_lightAll 17 = .ok (.if_icmp .ge 23, 3) := by decide +kernel
theorem dX8_lightAll_20 : decode cX8_lightAll 20 = .ok (.aload_n 0, 1) := by decide +kernel
theorem dX8_lightAll_21 : decode cX8_lightAll 21 = .ok (.getfield 68, 3) := by decide +kernel
theorem dX8_lightAll_24 : decode cX8_lightAll 24 = .ok (.iload_n 1, 1) := by decide +kernel
theorem dX8_lightAll_25 : decode cX8_lightAll 25 = .ok (.aload_n 0, 1) := by decide +kernel
theorem dX8_lightAll_26 : decode cX8_lightAll 26 = .ok (.getfield 29, 3) := by decide +kernel
theorem dX8_lightAll_29 : decode cX8_lightAll 29 = .ok (.iload_n 1, 1) := by decide +kernel
theorem dX8_lightAll_30 : decode cX8_lightAll 30 = .ok (.invokevirtual 245, 3) := by decide +kernel
theorem dX8_lightAll_33 : decode cX8_lightAll 33 = .ok (.iastore, 1) := by decide +kernel
theorem dX8_lightAll_34 : decode cX8_lightAll 34 = .ok (.iinc 1 1, 3) := by decide +kernel
theorem dX8_lightAll_37 : decode cX8_lightAll 37 = .ok (.goto (-23), 3) := by decide +kernel
theorem dX8_lightAll_40 : decode cX8_lightAll 40 = .ok (.return_, 1) := by decide +kernel
set_option maxRecDepth 20000 in
theorem ggX8_allLight_X8_lightAll : GoodIn wsX8_allLight wsX8_lightAll := goodIn_r _ [6, 7, 8, 1, 9, 10, 11, 12, 13, 14, 15, 16, 17, 18, 19, 20, 21, 22, 23, 24, 25, 26, 27, 28, 29, 30, 31, 32, 33, 34, 35, 36, 37, 38, 39, 40, 41, 5, 42, 43, 44, 45, 46, 47, 48, 49, 50, 51, 52, 53, 54, 55, 56, 57, 58, 59, 60, 61, 62, 63, 64, 65, 66, 67, 68, 69, 70, 74, 75, 76, 77, 78, 79, 80, 81, 82, 83, 84, 85, 86, 87, 88, 89, 90, 91, 92, 93, 94, 95, 96, 97, 98, 99, 100, 101, 102] (by decide +kernel) (by decide +kernel)
set_option maxRecDepth 20000 in
theorem gX8_allLight_X8_lightAll : GoodIn wsX8_allLight (wsV RX8 95 RX8 yX8_lightAll wsX8_lightAll) := goodIn_app (goodIn_of _ (by decide +kernel)) ggX8_allLight_X8_lightAll
set_option maxRecDepth 20000 in
theorem ggX8_allLight_X8_sumOf : GoodIn wsX8_allLight wsX8_sumOf := goodIn_r _ [73] (by decide +kernel) (by decide +kernel)
set_option maxRecDepth 20000 in
theorem gX8_allLight_X8_sumOf : GoodIn wsX8_allLight (va_wsS RX8 194 yX8_sumOf wsX8_sumOf) := goodIn_app (goodIn_of _ (by decide +kernel)) ggX8_allLight_X8_sumOf
theorem dX8_allLight_0 : decode cX8_allLight 0 = .ok (.aload_n 0, 1) := by decide +kernel
theorem dX8_allLight_1 : decode cX8_allLight 1 = .ok (.invokevirtual 95, 3) := by decide +kernel
theorem dX8_allLight_4 : decode cX8_allLight 4 = .ok (.aload_n 0, 1) := by decide +kernel
theorem dX8_allLight_5 : decode cX8_allLight 5 = .ok (.getfield 68, 3) := by decide +kernel
theorem dX8_allLight_8 : decode cX8_allLight 8 = .ok (.bipush 16, 2) := by decide +kernel
theorem dX8_allLight_10 : decode cX8_allLight 10 = .ok (.invokestatic 194, 3) := by decide +kernel
theorem dX8_allLight_13 : decode cX8_allLight 13 = .ok (.ireturn, 1) := by decide +kernel
set_option maxRecDepth 20000 in
theorem ggX8_shinesNow_X0_settleOn : GoodIn wsX8_shinesNow wsX0_settleOn := goodIn_r _ [8, 9, 10, 11, 12, 13, 14, 15, 16, 17, 18, 19, 20, 21, 22, 23, 24, 25, 26, 27, 28, 29, 30, 31, 32, 33, 34, 35, 36, 37, 38, 39, 40, 41, 42, 43, 44, 45, 46, 47, 48, 49, 50, 51, 52, 53, 7, 54, 55, 73, 74, 75, 76, 77, 78, 79, 80, 81, 82, 83, 84, 68, 69, 70, 71, 72] (by decide +kernel) (by decide +kernel)
set_option maxRecDepth 20000 in
theorem gX8_shinesNow_X0_settleOn : GoodIn wsX8_shinesNow (wsV RX8 149 RX0 yX0_settleOn wsX0_settleOn) := goodIn_app (goodIn_of _ (by decide +kernel)) ggX8_shinesNow_X0_settleOn
theorem dX8_shinesNow_0 : decode cX8_shinesNow 0 = .ok (.aload_n 0, 1) := by decide +kernel
theorem dX8_shinesNow_1 : decode cX8_shinesNow 1 = .ok (.getfield 29, 3) := by decide +kernel
theorem dX8_shinesNow_4 : decode cX8_shinesNow 4 = .ok (.aload_n 0, 1) := by decide +kernel
theorem dX8_shinesNow_5 : decode cX8_shinesNow 5 = .ok (.getfield 10, 3) := by decide +kernel
theorem dX8_shinesNow_8 : decode cX8_shinesNow 8 = .ok (.iconst 0, 1) := by decide +kernel
theorem dX8_shinesNow_9 : decode cX8_shinesNow 9 = .ok (.invokevirtual 149, 3) := by decide +kernel
theorem dX8_shinesNow_12 : decode cX8_shinesNow 12 = .ok (.aload_n 0, 1) := by decide +kernel
theorem dX8_shinesNow_13 : decode cX8_shinesNow 13 = .ok (.getfield 29, 3) := by decide +kernel
theorem dX8_shinesNow_16 : decode cX8_shinesNow 16 = .ok (.getfield 305, 3) := by decide +kernel
theorem dX8_shinesNow_19 : decode cX8_shinesNow 19 = .ok (.iload_n 1, 1) := by decide +kernel
theorem dX8_shinesNow_20 : decode cX8_shinesNow 20 = .ok (.iaload, 1) := by decide +kernel
theorem dX8_shinesNow_21 : decode cX8_shinesNow 21 = .ok (.ireturn, 1) := by decide +kernel
set_option maxRecDepth 20000 in
theorem ggX8_allShine_X0_settleOn : GoodIn wsX8_allShine wsX0_settleOn := goodIn_r _ [9, 10, 11, 12, 13, 14, 15, 16, 17, 18, 19, 20, 21, 22, 23, 24, 25, 26, 27, 28, 29, 30, 31, 32, 33, 34, 35, 36, 37, 38, 39, 40, 41, 42, 43, 44, 45, 46, 47, 48, 49, 50, 51, 52, 53, 54, 8, 55, 56, 77, 78, 79, 80, 81, 82, 83, 84, 85, 86, 87, 88, 72, 73, 74, 75, 76] (by decide +kernel) (by decide +kernel)
set_option maxRecDepth 20000 in
theorem gX8_allShine_X0_settleOn : GoodIn wsX8_allShine (wsV RX8 149 RX0 yX0_settleOn wsX0_settleOn) := goodIn_app (goodIn_of _ (by decide +kernel)) ggX8_allShine_X0_settleOn
set_option maxRecDepth 20000 in
theorem ggX8_allShine_X8_sumOf : GoodIn wsX8_allShine wsX8_sumOf := goodIn_r _ [59] (by decide +kernel) (by decide +kernel)
set_option maxRecDepth 20000 in
theorem gX8_allShine_X8_sumOf : GoodIn wsX8_allShine (va_wsS RX8 194 yX8_sumOf wsX8_sumOf) := goodIn_app (goodIn_of _ (by decide +kernel)) ggX8_allShine_X8_sumOf
theorem dX8_allShine_0 : decode cX8_allShine 0 = .ok (.aload_n 0, 1) := by decide +kernel
theorem dX8_allShine_1 : decode cX8_allShine 1 = .ok (.getfield 29, 3) := by decide +kernel
theorem dX8_allShine_4 : decode cX8_allShine 4 = .ok (.aload_n 0, 1) := by decide +kernel
theorem dX8_allShine_5 : decode cX8_allShine 5 = .ok (.getfield 10, 3) := by decide +kernel
theorem dX8_allShine_8 : decode cX8_allShine 8 = .ok (.iconst 0, 1) := by decide +kernel
theorem dX8_allShine_9 : decode cX8_allShine 9 = .ok (.invokevirtual 149, 3) := by decide +kernel
theorem dX8_allShine_12 : decode cX8_allShine 12 = .ok (.aload_n 0, 1) := by decide +kernel
theorem dX8_allShine_13 : decode cX8_allShine 13 = .ok (.getfield 29, 3) := by decide +kernel
theorem dX8_allShine_16 : decode cX8_allShine 16 = .ok (.getfield 305, 3) := by decide +kernel
theorem dX8_allShine_19 : decode cX8_allShine 19 = .ok (.aload_n 0, 1) := by decide +kernel
theorem dX8_allShine_20 : decode cX8_allShine 20 = .ok (.getfield 10, 3) := by decide +kernel
theorem dX8_allShine_23 : decode cX8_allShine 23 = .ok (.getfield 101, 3) := by decide +kernel
theorem dX8_allShine_26 : decode cX8_allShine 26 = .ok (.invokestatic 194, 3) := by decide +kernel
theorem dX8_allShine_29 : decode cX8_allShine 29 = .ok (.ireturn, 1) := by decide +kernel
set_option maxRecDepth 20000 in
theorem ggX8_isDone_X7_comes : GoodIn wsX8_isDone wsX7_comes := goodIn_r _ [10, 11, 12, 13, 14, 15, 89, 90, 91, 92, 93, 94, 95, 96, 97, 98, 99, 100] (by decide +kernel) (by decide +kernel)
set_option maxRecDepth 20000 in
theorem gX8_isDone_X7_comes : GoodIn wsX8_isDone (wsV RX8 205 RX7 yX7_comes wsX7_comes) := goodIn_app (goodIn_of _ (by decide +kernel)) ggX8_isDone_X7_comes
set_option maxRecDepth 20000 in
theorem ggX8_isDone_X0_settleOn : GoodIn wsX8_isDone wsX0_settleOn := goodIn_r _ [20, 21, 22, 23, 24, 25, 26, 27, 28, 29, 30, 31, 9, 32, 33, 34, 35, 36, 37, 38, 39, 40, 41, 42, 43, 44, 45, 46, 47, 14, 48, 49, 50, 51, 52, 53, 54, 55, 56, 57, 58, 59, 60, 61, 62, 63, 19, 64, 65, 89, 90, 91, 92, 93, 94, 95, 96, 97, 98, 99, 100, 101, 102, 103, 104, 105] (by decide +kernel) (by decide +kernel)
set_option maxRecDepth 20000 in
theorem gX8_isDone_X0_settleOn : GoodIn wsX8_isDone (wsV RX8 149 RX0 yX0_settleOn wsX0_settleOn) := goodIn_app (goodIn_of _ (by decide +kernel)) ggX8_isDone_X0_settleOn
set_option maxRecDepth 20000 in
theorem ggX8_isDone_X0_lightOf : GoodIn wsX8_isDone wsX0_lightOf := goodIn_r _ [69, 23, 22, 70, 71, 72, 19, 73, 27, 25, 74, 14, 75, 76, 45, 36, 46, 101, 102, 103, 104, 105] (by decide +kernel) (by decide +kernel)
set_option maxRecDepth 20000 in
theorem gX8_isDone_X0_lightOf : GoodIn wsX8_isDone (wsV RX8 245 RX0 yX0_lightOf wsX0_lightOf) := goodIn_app (goodIn_of _ (by decide +kernel)) ggX8_isDone_X0_lightOf
theorem dX8_isDone_0 : decode cX8_isDone 0 = .ok (.aload_n 1, 1) := by decide +kernel
theorem dX8_isDone_1 : decode cX8_isDone 1 = .ok (.iload_n 2, 1) := by decide +kernel
theorem dX8_isDone_2 : decode cX8_isDone 2 = .ok (.invokevirtual 205, 3) := by decide +kernel
theorem dX8_isDone_5 : decode cX8_isDone 5 = .ok (.ifCond .ne 5, 3) := by decide +kernel
theorem dX8_isDone_8 : decode cX8_isDone 8 = .ok (.iconst 0, 1) := by decide +kernel
theorem dX8_isDone_9 : decode cX8_isDone 9 = .ok (.ireturn, 1) := by decide +kernel
theorem dX8_isDone_10 : decode cX8_isDone 10 = .ok (.aload_n 0, 1) := by decide +kernel
theorem dX8_isDone_11 : decode cX8_isDone 11 = .ok (.getfield 29, 3) := by decide +kernel
theorem dX8_isDone_14 : decode cX8_isDone 14 = .ok (.aload_n 1, 1) := by decide +kernel
theorem dX8_isDone_15 : decode cX8_isDone 15 = .ok (.aload_n 1, 1) := by decide +kernel
theorem dX8_isDone_16 : decode cX8_isDone 16 = .ok (.getfield 169, 3) := by decide +kernel
theorem dX8_isDone_19 : decode cX8_isDone 19 = .ok (.iload_n 2, 1) := by decide +kernel
theorem dX8_isDone_20 : decode cX8_isDone 20 = .ok (.iaload, 1) := by decide +kernel
theorem dX8_isDone_21 : decode cX8_isDone 21 = .ok (.aload_n 1, 1) := by decide +kernel
theorem dX8_isDone_22 : decode cX8_isDone 22 = .ok (.getfield 179, 3) := by decide +kernel
theorem dX8_isDone_25 : decode cX8_isDone 25 = .ok (.isub, 1) := by decide +kernel
theorem dX8_isDone_26 : decode cX8_isDone 26 = .ok (.invokevirtual 149, 3) := by decide +kernel
theorem dX8_isDone_29 : decode cX8_isDone 29 = .ok (.aload_n 0, 1) := by decide +kernel
theorem dX8_isDone_30 : decode cX8_isDone 30 = .ok (.getfield 29, 3) := by decide +kernel
theorem dX8_isDone_33 : decode cX8_isDone 33 = .ok (.aload_n 1, 1) := by decide +kernel
theorem dX8_isDone_34 : decode cX8_isDone 34 = .ok (.getfield 166, 3) := by decide +kernel
theorem dX8_isDone_37 : decode cX8_isDone 37 = .ok (.iload_n 2, 1) := by decide +kernel
theorem dX8_isDone_38 : decode cX8_isDone 38 = .ok (.iaload, 1) := by decide +kernel
theorem dX8_isDone_39 : decode cX8_isDone 39 = .ok (.invokevirtual 245, 3) := by decide +kernel
theorem dX8_isDone_42 : decode cX8_isDone 42 = .ok (.aload_n 1, 1) := by decide +kernel
theorem dX8_isDone_43 : decode cX8_isDone 43 = .ok (.getfield 172, 3) := by decide +kernel
theorem dX8_isDone_46 : decode cX8_isDone 46 = .ok (.iload_n 2, 1) := by decide +kernel
theorem dX8_isDone_47 : decode cX8_isDone 47 = .ok (.iaload, 1) := by decide +kernel
theorem dX8_isDone_48 : decode cX8_isDone 48 = .ok (.if_icmp .lt 7, 3) := by decide +kernel
theorem dX8_isDone_51 : decode cX8_isDone 51 = .ok (.iconst 1, 1) := by decide +kernel
theorem dX8_isDone_52 : decode cX8_isDone 52 = .ok (.goto 4, 3) := by decide +kernel
theorem dX8_isDone_55 : decode cX8_isDone 55 = .ok (.iconst 0, 1) := by decide +kernel
theorem dX8_isDone_56 : decode cX8_isDone 56 = .ok (.ireturn, 1) := by decide +kernel
set_option maxRecDepth 20000 in
theorem ggX8_doneSet_X8_isDone : GoodIn wsX8_doneSet wsX8_isDone := goodIn_r _ [6, 7, 8, 9, 10, 11, 12, 13, 14, 15, 16, 17, 18, 19, 5, 20, 21, 22, 23, 24, 25, 26, 27, 28, 29, 30, 31, 32, 33, 34, 35, 36, 37, 38, 39, 40, 41, 42, 43, 44, 45, 46, 47, 48, 49, 50, 51, 52, 53, 54, 55, 56, 57, 58, 59, 60, 61, 62, 63, 64, 65, 66, 67, 68, 69, 70, 71, 72, 73, 74, 75, 76, 77, 78, 79, 80, 81, 94, 95, 96, 97, 98, 99, 100, 101, 102, 103, 104, 105, 82, 83, 84, 85, 86, 87, 88, 89, 90, 91, 92, 93, 106, 107, 108, 109, 110] (by decide +kernel) (by decide +kernel)
set_option maxRecDepth 20000 in
theorem gX8_doneSet_X8_isDone : GoodIn wsX8_doneSet (wsV RX8 175 RX8 yX8_isDone wsX8_isDone) := goodIn_app (goodIn_of _ (by decide +kernel)) ggX8_doneSet_X8_isDone
theorem dX8_doneSet_0 : decode cX8_doneSet 0 = .ok (.iconst 0, 1) := by decide +kernel
theorem dX8_doneSet_1 : decode cX8_doneSet 1 = .ok (.istore_n 2, 1) := by decide +kernel
theorem dX8_doneSet_2 : decode cX8_doneSet 2 = .ok (.iconst 0, 1) := by decide +kernel
theorem dX8_doneSet_3 : decode cX8_doneSet 3 = .ok (.istore_n 3, 1) := by decide +kernel
theorem dX8_doneSet_4 : decode cX8_doneSet 4 = .ok (.iload_n 3, 1) := by decide +kernel
theorem dX8_doneSet_5 : decode cX8_doneSet 5 = .ok (.aload_n 1, 1) := by decide +kernel
theorem dX8_doneSet_6 : decode cX8_doneSet 6 = .ok (.getfield 156, 3) := by decide +kernel
theorem dX8_doneSet_9 : decode cX8_doneSet 9 = .ok (.if_icmp .ge 24, 3) := by decide +kernel
theorem dX8_doneSet_12 : decode cX8_doneSet 12 = .ok (.aload_n 0, 1) := by decide +kernel
theorem dX8_doneSet_13 : decode cX8_doneSet 13 = .ok (.aload_n 1, 1) := by decide +kernel
theorem dX8_doneSet_14 : decode cX8_doneSet 14 = .ok (.iload_n 3, 1) := by decide +kernel
theorem dX8_doneSet_15 : decode cX8_doneSet 15 = .ok (.invokevirtual 175, 3) := by decide +kernel
theorem dX8_doneSet_18 : decode cX8_doneSet 18 = .ok (.ifCond .eq 9, 3) := by decide +kernel
theorem dX8_doneSet_21 : decode cX8_doneSet 21 = .ok (.iload_n 2, 1) := by decide +kernel
theorem dX8_doneSet_22 : decode cX8_doneSet 22 = .ok (.iconst 1, 1) := by decide +kernel
theorem dX8_doneSet_23 : decode cX8_doneSet 23 = .ok (.iload_n 3, 1) := by decide +kernel
theorem dX8_doneSet_24 : decode cX8_doneSet 24 = .ok (.ishl, 1) := by decide +kernel
theorem dX8_doneSet_25 : decode cX8_doneSet 25 = .ok (.ior, 1) := by decide +kernel
theorem dX8_doneSet_26 : decode cX8_doneSet 26 = .ok (.istore_n 2, 1) := by decide +kernel
theorem dX8_doneSet_27 : decode cX8_doneSet 27 = .ok (.iinc 3 1, 3) := by decide +kernel
theorem dX8_doneSet_30 : decode cX8_doneSet 30 = .ok (.goto (-26), 3) := by decide +kernel
theorem dX8_doneSet_33 : decode cX8_doneSet 33 = .ok (.iload_n 2, 1) := by decide +kernel
theorem dX8_doneSet_34 : decode cX8_doneSet 34 = .ok (.ireturn, 1) := by decide +kernel
set_option maxRecDepth 20000 in
theorem ggX8_tryWithout_X7_becomeAs : GoodIn wsX8_tryWithout wsX7_becomeAs := goodIn_r _ [8, 9, 10, 11, 12, 13, 14, 15, 16, 17, 18, 19, 20, 21, 22, 23, 24, 37, 38, 39, 40, 41, 42, 43, 44, 45, 46, 47, 48] (by decide +kernel) (by decide +kernel)
set_option maxRecDepth 20000 in
theorem gX8_tryWithout_X7_becomeAs : GoodIn wsX8_tryWithout (wsV RX8 233 RX7 yX7_becomeAs wsX7_becomeAs) := goodIn_app (goodIn_of _ (by decide +kernel)) ggX8_tryWithout_X7_becomeAs
theorem dX8_tryWithout_0 : decode cX8_tryWithout 0 = .ok (.aload_n 0, 1) := by decide +kernel
theorem dX8_tryWithout_1 : decode cX8_tryWithout 1 = .ok (.getfield 19, 3) := by decide +kernel
theorem dX8_tryWithout_4 : decode cX8_tryWithout 4 = .ok (.aload_n 0, 1) := by decide +kernel
theorem dX8_tryWithout_5 : decode cX8_tryWithout 5 = .ok (.getfield 10, 3) := by decide +kernel
theorem dX8_tryWithout_8 : decode cX8_tryWithout 8 = .ok (.invokevirtual 233, 3) := by decide +kernel
theorem dX8_tryWithout_11 : decode cX8_tryWithout 11 = .ok (.aload_n 0, 1) := by decide +kernel
theorem dX8_tryWithout_12 : decode cX8_tryWithout 12 = .ok (.getfield 19, 3) := by decide +kernel
theorem dX8_tryWithout_15 : decode cX8_tryWithout 15 = .ok (.getfield 112, 3) := by decide +kernel
theorem dX8_tryWithout_18 : decode cX8_tryWithout 18 = .ok (.iload_n 1, 1) := by decide +kernel
theorem dX8_tryWithout_19 : decode cX8_tryWithout 19 = .ok (.iconst (-1), 1) := by decide +kernel
theorem dX8_tryWithout_20 : decode cX8_tryWithout 20 = .ok (.iastore, 1) := by decide +kernel
theorem dX8_tryWithout_21 : decode cX8_tryWithout 21 = .ok (.return_, 1) := by decide +kernel
set_option maxRecDepth 20000 in
theorem ggX8_bestChoice_X8_tryChoice : GoodIn wsX8_bestChoice wsX8_tryChoice := goodIn_r _ [6, 1, 7, 8, 9, 10, 11, 12, 13, 14, 15, 16, 17, 18, 19, 20, 21, 22, 23, 24, 25, 26, 27, 28, 29, 30, 31, 32, 33, 34, 35, 116, 117, 118, 119, 120, 121, 122, 123, 124, 125, 126, 127, 128, 129, 130, 131, 132, 133, 134, 135, 136, 137, 138, 139] (by decide +kernel) (by decide +kernel)
set_option maxRecDepth 20000 in
theorem gX8_bestChoice_X8_tryChoice : GoodIn wsX8_bestChoice (wsV RX8 308 RX8 yX8_tryChoice wsX8_tryChoice) := goodIn_app (goodIn_of _ (by decide +kernel)) ggX8_bestChoice_X8_tryChoice
set_option maxRecDepth 20000 in
theorem ggX8_bestChoice_X8_doneSet : GoodIn wsX8_bestChoice wsX8_doneSet := goodIn_r _ [39, 40, 41, 42, 43, 5, 44, 45, 46, 47, 48, 49, 50, 51, 52, 18, 53, 34, 20, 54, 55, 56, 57, 58, 59, 60, 61, 62, 63, 64, 65, 66, 67, 68, 69, 70, 71, 72, 21, 73, 74, 11, 75, 76, 77, 78, 79, 28, 29, 80, 81, 82, 83, 84, 9, 10, 12, 85, 86, 87, 88, 89, 90, 91, 92, 31, 93, 94, 95, 96, 97, 98, 99, 100, 101, 102, 103, 104, 105, 106, 107, 108, 128, 129, 130, 131, 132, 133, 134, 135, 136, 137, 138, 139, 116, 117, 118, 119, 120, 121, 122, 123, 124, 125, 126, 127, 140, 141, 142, 143, 144] (by decide +kernel) (by decide +kernel)
set_option maxRecDepth 20000 in
theorem gX8_bestChoice_X8_doneSet : GoodIn wsX8_bestChoice (wsV RX8 201 RX8 yX8_doneSet wsX8_doneSet) := goodIn_app (goodIn_of _ (by decide +kernel)) ggX8_bestChoice_X8_doneSet
set_option maxRecDepth 20000 in
theorem ggX8_bestChoice_J6_bitCount_0f7a4 : GoodIn wsX8_bestChoice wsJ6_bitCount_0f7a4 := goodIn_r _ [112, 113, 114, 115] (by decide +kernel) (by decide +kernel)
set_option maxRecDepth 20000 in
theorem gX8_bestChoice_J6_bitCount_0f7a4 : GoodIn wsX8_bestChoice (va_wsS RX8 237 yJ6_bitCount_0f7a4 wsJ6_bitCount_0f7a4) := goodIn_app (goodIn_of _ (by decide +kernel)) ggX8_bestChoice_J6_bitCount_0f7a4
theorem dX8_bestChoice_0 : decode cX8_bestChoice 0 = .ok (.iconst 0, 1) := by decide +kernel
theorem dX8_bestChoice_1 : decode cX8_bestChoice 1 = .ok (.istore 4, 2) := by decide +kernel
theorem dX8_bestChoice_3 : decode cX8_bestChoice 3 = .ok (.iconst (-1), 1) := by decide +kernel
theorem dX8_bestChoice_4 : decode cX8_bestChoice 4 = .ok (.istore 5, 2) := by decide +kernel
theorem dX8_bestChoice_6 : decode cX8_bestChoice 6 = .ok (.iconst 0, 1) := by decide +kernel
theorem dX8_bestChoice_7 : decode cX8_bestChoice 7 = .ok (.istore 6, 2) := by decide +kernel
theorem dX8_bestChoice_9 : decode cX8_bestChoice 9 = .ok (.iload 6, 2) := by decide +kernel
theorem dX8_bestChoice_11 : decode cX8_bestChoice 11 = .ok (.iload_n 3, 1) := by decide +kernel
theorem dX8_bestChoice_12 : decode cX8_bestChoice 12 = .ok (.if_icmp .ge 45, 3) := by decide +kernel
theorem dX8_bestChoice_15 : decode cX8_bestChoice 15 = .ok (.aload_n 0, 1) := by decide +kernel
theorem dX8_bestChoice_16 : decode cX8_bestChoice 16 = .ok (.iload_n 1, 1) := by decide +kernel
theorem dX8_bestChoice_17 : decode cX8_bestChoice 17 = .ok (.iload_n 2, 1) := by decide +kernel
theorem dX8_bestChoice_18 : decode cX8_bestChoice 18 = .ok (.iload 6, 2) := by decide +kernel
theorem dX8_bestChoice_20 : decode cX8_bestChoice 20 = .ok (.invokevirtual 308, 3) := by decide +kernel
theorem dX8_bestChoice_23 : decode cX8_bestChoice 23 = .ok (.aload_n 0, 1) := by decide +kernel
theorem dX8_bestChoice_24 : decode cX8_bestChoice 24 = .ok (.aload_n 0, 1) := by decide +kernel
theorem dX8_bestChoice_25 : decode cX8_bestChoice 25 = .ok (.getfield 19, 3) := by decide +kernel
theorem dX8_bestChoice_28 : decode cX8_bestChoice 28 = .ok (.invokevirtual 201, 3) := by decide +kernel
theorem dX8_bestChoice_31 : decode cX8_bestChoice 31 = .ok (.invokestatic 237, 3) := by decide +kernel
theorem dX8_bestChoice_34 : decode cX8_bestChoice 34 = .ok (.istore 7, 2) := by decide +kernel
theorem dX8_bestChoice_36 : decode cX8_bestChoice 36 = .ok (.iload 7, 2) := by decide +kernel
theorem dX8_bestChoice_38 : decode cX8_bestChoice 38 = .ok (.iload 5, 2) := by decide +kernel
theorem dX8_bestChoice_40 : decode cX8_bestChoice 40 = .ok (.if_icmp .le 11, 3) := by decide +kernel
theorem dX8_bestChoice_43 : decode cX8_bestChoice 43 = .ok (.iload 7, 2) := by decide +kernel
theorem dX8_bestChoice_45 : decode cX8_bestChoice 45 = .ok (.istore 5, 2) := by decide +kernel
theorem dX8_bestChoice_47 : decode cX8_bestChoice 47 = .ok (.iload 6, 2) := by decide +kernel
theorem dX8_bestChoice_49 : decode cX8_bestChoice 49 = .ok (.istore 4, 2) := by decide +kernel
theorem dX8_bestChoice_51 : decode cX8_bestChoice 51 = .ok (.iinc 6 1, 3) := by decide +kernel
theorem dX8_bestChoice_54 : decode cX8_bestChoice 54 = .ok (.goto (-45), 3) := by decide +kernel
theorem dX8_bestChoice_57 : decode cX8_bestChoice 57 = .ok (.iload 4, 2) := by decide +kernel
theorem dX8_bestChoice_59 : decode cX8_bestChoice 59 = .ok (.ireturn, 1) := by decide +kernel
set_option maxRecDepth 20000 in
theorem ggX8_tryChoice_X7_becomeAs : GoodIn wsX8_tryChoice wsX7_becomeAs := goodIn_r _ [14, 15, 16, 17, 18, 19, 20, 21, 22, 23, 24, 25, 26, 27, 28, 29, 30, 43, 44, 45, 46, 47, 48, 49, 50, 51, 52, 53, 54] (by decide +kernel) (by decide +kernel)
set_option maxRecDepth 20000 in
theorem gX8_tryChoice_X7_becomeAs : GoodIn wsX8_tryChoice (wsV RX8 233 RX7 yX7_becomeAs wsX7_becomeAs) := goodIn_app (goodIn_of _ (by decide +kernel)) ggX8_tryChoice_X7_becomeAs
theorem dX8_tryChoice_0 : decode cX8_tryChoice 0 = .ok (.aload_n 0, 1) := by decide +kernel
theorem dX8_tryChoice_1 : decode cX8_tryChoice 1 = .ok (.getfield 19, 3) := by decide +kernel
theorem dX8_tryChoice_4 : decode cX8_tryChoice 4 = .ok (.aload_n 0, 1) := by decide +kernel
theorem dX8_tryChoice_5 : decode cX8_tryChoice 5 = .ok (.getfield 10, 3) := by decide +kernel
theorem dX8_tryChoice_8 : decode cX8_tryChoice 8 = .ok (.invokevirtual 233, 3) := by decide +kernel
theorem dX8_tryChoice_11 : decode cX8_tryChoice 11 = .ok (.iload_n 1, 1) := by decide +kernel
theorem dX8_tryChoice_12 : decode cX8_tryChoice 12 = .ok (.lookupswitch 69 #[(0, 28), (1, 56)], 28) := by decide +kernel
theorem dX8_tryChoice_40 : decode cX8_tryChoice 40 = .ok (.aload_n 0, 1) := by decide +kernel
theorem dX8_tryChoice_41 : decode cX8_tryChoice 41 = .ok (.getfield 19, 3) := by decide +kernel
theorem dX8_tryChoice_44 : decode cX8_tryChoice 44 = .ok (.getfield 88, 3) := by decide +kernel
theorem dX8_tryChoice_47 : decode cX8_tryChoice 47 = .ok (.iload_n 3, 1) := by decide +kernel
theorem dX8_tryChoice_48 : decode cX8_tryChoice 48 = .ok (.bipush 99, 2) := by decide +kernel
theorem dX8_tryChoice_50 : decode cX8_tryChoice 50 = .ok (.aload_n 0, 1) := by decide +kernel
theorem dX8_tryChoice_51 : decode cX8_tryChoice 51 = .ok (.getfield 19, 3) := by decide +kernel
theorem dX8_tryChoice_54 : decode cX8_tryChoice 54 = .ok (.getfield 88, 3) := by decide +kernel
theorem dX8_tryChoice_57 : decode cX8_tryChoice 57 = .ok (.iload_n 3, 1) := by decide +kernel
theorem dX8_tryChoice_58 : decode cX8_tryChoice 58 = .ok (.iaload, 1) := by decide +kernel
theorem dX8_tryChoice_59 : decode cX8_tryChoice 59 = .ok (.iload_n 2, 1) := by decide +kernel
theorem dX8_tryChoice_60 : decode cX8_tryChoice 60 = .ok (.iadd, 1) := by decide +kernel
theorem dX8_tryChoice_61 : decode cX8_tryChoice 61 = .ok (.invokestatic 312, 3) := by decide +kernel
theorem dX8_tryChoice_64 : decode cX8_tryChoice 64 = .ok (.iastore, 1) := by decide +kernel
theorem dX8_tryChoice_65 : decode cX8_tryChoice 65 = .ok (.goto 26, 3) := by decide +kernel
theorem dX8_tryChoice_68 : decode cX8_tryChoice 68 = .ok (.aload_n 0, 1) := by decide +kernel
theorem dX8_tryChoice_69 : decode cX8_tryChoice 69 = .ok (.getfield 19, 3) := by decide +kernel
theorem dX8_tryChoice_72 : decode cX8_tryChoice 72 = .ok (.getfield 118, 3) := by decide +kernel
theorem dX8_tryChoice_75 : decode cX8_tryChoice 75 = .ok (.iload_n 2, 1) := by decide +kernel
theorem dX8_tryChoice_76 : decode cX8_tryChoice 76 = .ok (.iload_n 3, 1) := by decide +kernel
theorem dX8_tryChoice_77 : decode cX8_tryChoice 77 = .ok (.iastore, 1) := by decide +kernel
theorem dX8_tryChoice_78 : decode cX8_tryChoice 78 = .ok (.goto 13, 3) := by decide +kernel
theorem dX8_tryChoice_81 : decode cX8_tryChoice 81 = .ok (.aload_n 0, 1) := by decide +kernel
theorem dX8_tryChoice_82 : decode cX8_tryChoice 82 = .ok (.getfield 19, 3) := by decide +kernel
theorem dX8_tryChoice_85 : decode cX8_tryChoice 85 = .ok (.getfield 112, 3) := by decide +kernel
theorem dX8_tryChoice_88 : decode cX8_tryChoice 88 = .ok (.iload_n 2, 1) := by decide +kernel
theorem dX8_tryChoice_89 : decode cX8_tryChoice 89 = .ok (.iload_n 3, 1) := by decide +kernel
theorem dX8_tryChoice_90 : decode cX8_tryChoice 90 = .ok (.iastore, 1) := by decide +kernel
theorem dX8_tryChoice_91 : decode cX8_tryChoice 91 = .ok (.return_, 1) := by decide +kernel
theorem dX8_within_0 : decode cX8_within 0 = .ok (.iload_n 0, 1) := by decide +kernel
theorem dX8_within_1 : decode cX8_within 1 = .ok (.iload_n 1, 1) := by decide +kernel
theorem dX8_within_2 : decode cX8_within 2 = .ok (.if_icmp .lt 12, 3) := by decide +kernel
theorem dX8_within_5 : decode cX8_within 5 = .ok (.iload_n 0, 1) := by decide +kernel
theorem dX8_within_6 : decode cX8_within 6 = .ok (.iload_n 2, 1) := by decide +kernel
theorem dX8_within_7 : decode cX8_within 7 = .ok (.if_icmp .gt 7, 3) := by decide +kernel
theorem dX8_within_10 : decode cX8_within 10 = .ok (.iconst 1, 1) := by decide +kernel
theorem dX8_within_11 : decode cX8_within 11 = .ok (.goto 4, 3) := by decide +kernel
theorem dX8_within_14 : decode cX8_within 14 = .ok (.iconst 0, 1) := by decide +kernel
theorem dX8_within_15 : decode cX8_within 15 = .ok (.ireturn, 1) := by decide +kernel
set_option maxRecDepth 20000 in
theorem ggX8_isPlace_X8_within : GoodIn wsX8_isPlace wsX8_within := goodIn_r _ [4] (by decide +kernel) (by decide +kernel)
set_option maxRecDepth 20000 in
theorem gX8_isPlace_X8_within : GoodIn wsX8_isPlace (va_wsS RX8 79 yX8_within wsX8_within) := goodIn_app (goodIn_of _ (by decide +kernel)) ggX8_isPlace_X8_within
theorem dX8_isPlace_0 : decode cX8_isPlace 0 = .ok (.iload_n 0, 1) := by decide +kernel
theorem dX8_isPlace_1 : decode cX8_isPlace 1 = .ok (.iconst 0, 1) := by decide +kernel
theorem dX8_isPlace_2 : decode cX8_isPlace 2 = .ok (.bipush 15, 2) := by decide +kernel
theorem dX8_isPlace_4 : decode cX8_isPlace 4 = .ok (.invokestatic 79, 3) := by decide +kernel
theorem dX8_isPlace_7 : decode cX8_isPlace 7 = .ok (.ireturn, 1) := by decide +kernel
set_option maxRecDepth 20000 in
theorem ggX8_isKind_X8_within : GoodIn wsX8_isKind wsX8_within := goodIn_r _ [4] (by decide +kernel) (by decide +kernel)
set_option maxRecDepth 20000 in
theorem gX8_isKind_X8_within : GoodIn wsX8_isKind (va_wsS RX8 79 yX8_within wsX8_within) := goodIn_app (goodIn_of _ (by decide +kernel)) ggX8_isKind_X8_within
theorem dX8_isKind_0 : decode cX8_isKind 0 = .ok (.iload_n 0, 1) := by decide +kernel
theorem dX8_isKind_1 : decode cX8_isKind 1 = .ok (.iconst 0, 1) := by decide +kernel
theorem dX8_isKind_2 : decode cX8_isKind 2 = .ok (.iconst 5, 1) := by decide +kernel
theorem dX8_isKind_3 : decode cX8_isKind 3 = .ok (.invokestatic 79, 3) := by decide +kernel
theorem dX8_isKind_6 : decode cX8_isKind 6 = .ok (.ireturn, 1) := by decide +kernel
set_option maxRecDepth 20000 in
theorem ggX8_isSheet_X8_within : GoodIn wsX8_isSheet wsX8_within := goodIn_r _ [4] (by decide +kernel) (by decide +kernel)
set_option maxRecDepth 20000 in
theorem gX8_isSheet_X8_within : GoodIn wsX8_isSheet (va_wsS RX8 79 yX8_within wsX8_within) := goodIn_app (goodIn_of _ (by decide +kernel)) ggX8_isSheet_X8_within
theorem dX8_isSheet_0 : decode cX8_isSheet 0 = .ok (.iload_n 0, 1) := by decide +kernel
theorem dX8_isSheet_1 : decode cX8_isSheet 1 = .ok (.iconst 0, 1) := by decide +kernel
theorem dX8_isSheet_2 : decode cX8_isSheet 2 = .ok (.iconst 3, 1) := by decide +kernel
theorem dX8_isSheet_3 : decode cX8_isSheet 3 = .ok (.invokestatic 79, 3) := by decide +kernel
theorem dX8_isSheet_6 : decode cX8_isSheet 6 = .ok (.ireturn, 1) := by decide +kernel
theorem dX8_sumOf_0 : decode cX8_sumOf 0 = .ok (.iconst 0, 1) := by decide +kernel
theorem dX8_sumOf_1 : decode cX8_sumOf 1 = .ok (.istore_n 2, 1) := by decide +kernel
theorem dX8_sumOf_2 : decode cX8_sumOf 2 = .ok (.iconst 0, 1) := by decide +kernel
theorem dX8_sumOf_3 : decode cX8_sumOf 3 = .ok (.istore_n 3, 1) := by decide +kernel
theorem dX8_sumOf_4 : decode cX8_sumOf 4 = .ok (.iload_n 3, 1) := by decide +kernel
theorem dX8_sumOf_5 : decode cX8_sumOf 5 = .ok (.iload_n 1, 1) := by decide +kernel
theorem dX8_sumOf_6 : decode cX8_sumOf 6 = .ok (.if_icmp .ge 21, 3) := by decide +kernel
theorem dX8_sumOf_9 : decode cX8_sumOf 9 = .ok (.iload_n 3, 1) := by decide +kernel
theorem dX8_sumOf_10 : decode cX8_sumOf 10 = .ok (.aload_n 0, 1) := by decide +kernel
theorem dX8_sumOf_11 : decode cX8_sumOf 11 = .ok (.arraylength, 1) := by decide +kernel
theorem dX8_sumOf_12 : decode cX8_sumOf 12 = .ok (.if_icmp .ge 15, 3) := by decide +kernel
theorem dX8_sumOf_15 : decode cX8_sumOf 15 = .ok (.iload_n 2, 1) := by decide +kernel
theorem dX8_sumOf_16 : decode cX8_sumOf 16 = .ok (.aload_n 0, 1) := by decide +kernel
theorem dX8_sumOf_17 : decode cX8_sumOf 17 = .ok (.iload_n 3, 1) := by decide +kernel
theorem dX8_sumOf_18 : decode cX8_sumOf 18 = .ok (.iaload, 1) := by decide +kernel
theorem dX8_sumOf_19 : decode cX8_sumOf 19 = .ok (.iadd, 1) := by decide +kernel
theorem dX8_sumOf_20 : decode cX8_sumOf 20 = .ok (.istore_n 2, 1) := by decide +kernel
theorem dX8_sumOf_21 : decode cX8_sumOf 21 = .ok (.iinc 3 1, 3) := by decide +kernel
theorem dX8_sumOf_24 : decode cX8_sumOf 24 = .ok (.goto (-20), 3) := by decide +kernel
theorem dX8_sumOf_27 : decode cX8_sumOf 27 = .ok (.iload_n 2, 1) := by decide +kernel
theorem dX8_sumOf_28 : decode cX8_sumOf 28 = .ok (.ireturn, 1) := by decide +kernel
theorem dX8_stepsBetween_0 : decode cX8_stepsBetween 0 = .ok (.iload_n 0, 1) := by decide +kernel
theorem dX8_stepsBetween_1 : decode cX8_stepsBetween 1 = .ok (.iconst 4, 1) := by decide +kernel
theorem dX8_stepsBetween_2 : decode cX8_stepsBetween 2 = .ok (.idiv, 1) := by decide +kernel
theorem dX8_stepsBetween_3 : decode cX8_stepsBetween 3 = .ok (.iload_n 1, 1) := by decide +kernel
theorem dX8_stepsBetween_4 : decode cX8_stepsBetween 4 = .ok (.iconst 4, 1) := by decide +kernel
theorem dX8_stepsBetween_5 : decode cX8_stepsBetween 5 = .ok (.idiv, 1) := by decide +kernel
theorem dX8_stepsBetween_6 : decode cX8_stepsBetween 6 = .ok (.isub, 1) := by decide +kernel
theorem dX8_stepsBetween_7 : decode cX8_stepsBetween 7 = .ok (.invokestatic 317, 3) := by decide +kernel
theorem dX8_stepsBetween_10 : decode cX8_stepsBetween 10 = .ok (.iload_n 0, 1) := by decide +kernel
theorem dX8_stepsBetween_11 : decode cX8_stepsBetween 11 = .ok (.iconst 4, 1) := by decide +kernel
theorem dX8_stepsBetween_12 : decode cX8_stepsBetween 12 = .ok (.irem, 1) := by decide +kernel
theorem dX8_stepsBetween_13 : decode cX8_stepsBetween 13 = .ok (.iload_n 1, 1) := by decide +kernel
theorem dX8_stepsBetween_14 : decode cX8_stepsBetween 14 = .ok (.iconst 4, 1) := by decide +kernel
theorem dX8_stepsBetween_15 : decode cX8_stepsBetween 15 = .ok (.irem, 1) := by decide +kernel
theorem dX8_stepsBetween_16 : decode cX8_stepsBetween 16 = .ok (.isub, 1) := by decide +kernel
theorem dX8_stepsBetween_17 : decode cX8_stepsBetween 17 = .ok (.invokestatic 317, 3) := by decide +kernel
theorem dX8_stepsBetween_20 : decode cX8_stepsBetween 20 = .ok (.iadd, 1) := by decide +kernel
theorem dX8_stepsBetween_21 : decode cX8_stepsBetween 21 = .ok (.ireturn, 1) := by decide +kernel
theorem dX8_isUnder_0 : decode cX8_isUnder 0 = .ok (.iload_n 0, 1) := by decide +kernel
theorem dX8_isUnder_1 : decode cX8_isUnder 1 = .ok (.istore_n 2, 1) := by decide +kernel
theorem dX8_isUnder_2 : decode cX8_isUnder 2 = .ok (.iconst 0, 1) := by decide +kernel
theorem dX8_isUnder_3 : decode cX8_isUnder 3 = .ok (.istore_n 3, 1) := by decide +kernel
theorem dX8_isUnder_4 : decode cX8_isUnder 4 = .ok (.iload_n 3, 1) := by decide +kernel
theorem dX8_isUnder_5 : decode cX8_isUnder 5 = .ok (.bipush 6, 2) := by decide +kernel
theorem dX8_isUnder_7 : decode cX8_isUnder 7 = .ok (.if_icmp .ge 32, 3) := by decide +kernel
theorem dX8_isUnder_10 : decode cX8_isUnder 10 = .ok (.iload_n 2, 1) := by decide +kernel
theorem dX8_isUnder_11 : decode cX8_isUnder 11 = .ok (.ifCond .lt 28, 3) := by decide +kernel
theorem dX8_isUnder_14 : decode cX8_isUnder 14 = .ok (.iload_n 2, 1) := by decide +kernel
theorem dX8_isUnder_15 : decode cX8_isUnder 15 = .ok (.bipush 6, 2) := by decide +kernel
theorem dX8_isUnder_17 : decode cX8_isUnder 17 = .ok (.if_icmp .ge 22, 3) := by decide +kernel
theorem dX8_isUnder_20 : decode cX8_isUnder 20 = .ok (.iload_n 2, 1) := by decide +kernel
theorem dX8_isUnder_21 : decode cX8_isUnder 21 = .ok (.iload_n 1, 1) := by decide +kernel
theorem dX8_isUnder_22 : decode cX8_isUnder 22 = .ok (.if_icmp .ne 5, 3) := by decide +kernel
theorem dX8_isUnder_25 : decode cX8_isUnder 25 = .ok (.iconst 1, 1) := by decide +kernel
theorem dX8_isUnder_26 : decode cX8_isUnder 26 = .ok (.ireturn, 1) := by decide +kernel
theorem dX8_isUnder_27 : decode cX8_isUnder 27 = .ok (.getstatic 320, 3) := by decide +kernel
theorem dX8_isUnder_30 : decode cX8_isUnder 30 = .ok (.iload_n 2, 1) := by decide +kernel
theorem dX8_isUnder_31 : decode cX8_isUnder 31 = .ok (.iaload, 1) := by decide +kernel
theorem dX8_isUnder_32 : decode cX8_isUnder 32 = .ok (.istore_n 2, 1) := by decide +kernel
theorem dX8_isUnder_33 : decode cX8_isUnder 33 = .ok (.iinc 3 1, 3) := by decide +kernel
theorem dX8_isUnder_36 : decode cX8_isUnder 36 = .ok (.goto (-32), 3) := by decide +kernel
theorem dX8_isUnder_39 : decode cX8_isUnder 39 = .ok (.iconst 0, 1) := by decide +kernel
theorem dX8_isUnder_40 : decode cX8_isUnder 40 = .ok (.ireturn, 1) := by decide +kernel
theorem dX8_towards_0 : decode cX8_towards 0 = .ok (.iload_n 0, 1) := by decide +kernel
theorem dX8_towards_1 : decode cX8_towards 1 = .ok (.iload_n 1, 1) := by decide +kernel
theorem dX8_towards_2 : decode cX8_towards 2 = .ok (.if_icmp .ge 13, 3) := by decide +kernel
theorem dX8_towards_5 : decode cX8_towards 5 = .ok (.iload_n 0, 1) := by decide +kernel
theorem dX8_towards_6 : decode cX8_towards 6 = .ok (.iload_n 2, 1) := by decide +kernel
theorem dX8_towards_7 : decode cX8_towards 7 = .ok (.iadd, 1) := by decide +kernel
theorem dX8_towards_8 : decode cX8_towards 8 = .ok (.iload_n 1, 1) := by decide +kernel
theorem dX8_towards_9 : decode cX8_towards 9 = .ok (.invokestatic 312, 3) := by decide +kernel
theorem dX8_towards_12 : decode cX8_towards 12 = .ok (.goto 10, 3) := by decide +kernel
theorem dX8_towards_15 : decode cX8_towards 15 = .ok (.iload_n 0, 1) := by decide +kernel
theorem dX8_towards_16 : decode cX8_towards 16 = .ok (.iload_n 2, 1) := by decide +kernel
theorem dX8_towards_17 : decode cX8_towards 17 = .ok (.isub, 1) := by decide +kernel
theorem dX8_towards_18 : decode cX8_towards 18 = .ok (.iload_n 1, 1) := by decide +kernel
theorem dX8_towards_19 : decode cX8_towards 19 = .ok (.invokestatic 323, 3) := by decide +kernel
theorem dX8_towards_22 : decode cX8_towards 22 = .ok (.ireturn, 1) := by decide +kernel
