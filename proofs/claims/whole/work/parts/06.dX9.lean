theorem dX9_init_0 : decode cX9_init 0 = .ok (.aload_n 0, 1) := by decide +kernel
theorem dX9_init_1 : decode cX9_init 1 = .ok (.invokespecial 1, 3) := by decide +kernel
theorem dX9_init_4 : decode cX9_init 4 = .ok (.aload_n 0, 1) := by decide +kernel
theorem dX9_init_5 : decode cX9_init 5 = .ok (.bipush 93, 2) := by decide +kernel
theorem dX9_init_7 : decode cX9_init 7 = .ok (.newarray .int, 2) := by decide +kernel
theorem dX9_init_9 : decode cX9_init 9 = .ok (.putfield 9, 3) := by decide +kernel
theorem dX9_init_12 : decode cX9_init 12 = .ok (.aload_n 0, 1) := by decide +kernel
theorem dX9_init_13 : decode cX9_init 13 = .ok (.bipush 93, 2) := by decide +kernel
theorem dX9_init_15 : decode cX9_init 15 = .ok (.newarray .int, 2) := by decide +kernel
theorem dX9_init_17 : decode cX9_init 17 = .ok (.putfield 13, 3) := by decide +kernel
theorem dX9_init_20 : decode cX9_init 20 = .ok (.aload_n 0, 1) := by decide +kernel
theorem dX9_init_21 : decode cX9_init 21 = .ok (.bipush 93, 2) := by decide +kernel
theorem dX9_init_23 : decode cX9_init 23 = .ok (.newarray .int, 2) := by decide +kernel
theorem dX9_init_25 : decode cX9_init 25 = .ok (.putfield 16, 3) := by decide +kernel
theorem dX9_init_28 : decode cX9_init 28 = .ok (.aload_n 0, 1) := by decide +kernel
theorem dX9_init_29 : decode cX9_init 29 = .ok (.bipush 93, 2) := by decide +kernel
theorem dX9_init_31 : decode cX9_init 31 = .ok (.newarray .int, 2) := by decide +kernel
theorem dX9_init_33 : decode cX9_init 33 = .ok (.putfield 19, 3) := by decide +kernel
theorem dX9_init_36 : decode cX9_init 36 = .ok (.aload_n 0, 1) := by decide +kernel
theorem dX9_init_37 : decode cX9_init 37 = .ok (.bipush 7, 2) := by decide +kernel
theorem dX9_init_39 : decode cX9_init 39 = .ok (.newarray .int, 2) := by decide +kernel
theorem dX9_init_41 : decode cX9_init 41 = .ok (.putfield 22, 3) := by decide +kernel
theorem dX9_init_44 : decode cX9_init 44 = .ok (.aload_n 0, 1) := by decide +kernel
theorem dX9_init_45 : decode cX9_init 45 = .ok (.bipush 16, 2) := by decide +kernel
theorem dX9_init_47 : decode cX9_init 47 = .ok (.newarray .int, 2) := by decide +kernel
theorem dX9_init_49 : decode cX9_init 49 = .ok (.putfield 25, 3) := by decide +kernel
theorem dX9_init_52 : decode cX9_init 52 = .ok (.aload_n 0, 1) := by decide +kernel
theorem dX9_init_53 : decode cX9_init 53 = .ok (.bipush 16, 2) := by decide +kernel
theorem dX9_init_55 : decode cX9_init 55 = .ok (.newarray .int, 2) := by decide +kernel
theorem dX9_init_57 : decode cX9_init 57 = .ok (.putfield 28, 3) := by decide +kernel
theorem dX9_init_60 : decode cX9_init 60 = .ok (.aload_n 0, 1) := by decide +kernel
theorem dX9_init_61 : decode cX9_init 61 = .ok (.bipush 120, 2) := by decide +kernel
theorem dX9_init_63 : decode cX9_init 63 = .ok (.newarray .int, 2) := by decide +kernel
theorem dX9_init_65 : decode cX9_init 65 = .ok (.putfield 31, 3) := by decide +kernel
theorem dX9_init_68 : decode cX9_init 68 = .ok (.aload_n 0, 1) := by decide +kernel
theorem dX9_init_69 : decode cX9_init 69 = .ok (.iconst 4, 1) := by decide +kernel
theorem dX9_init_70 : decode cX9_init 70 = .ok (.newarray .int, 2) := by decide +kernel
theorem dX9_init_72 : decode cX9_init 72 = .ok (.putfield 34, 3) := by decide +kernel
theorem dX9_init_75 : decode cX9_init 75 = .ok (.aload_n 0, 1) := by decide +kernel
theorem dX9_init_76 : decode cX9_init 76 = .ok (.iconst 4, 1) := by decide +kernel
theorem dX9_init_77 : decode cX9_init 77 = .ok (.newarray .int, 2) := by decide +kernel
theorem dX9_init_79 : decode cX9_init 79 = .ok (.putfield 37, 3) := by decide +kernel
theorem dX9_init_82 : decode cX9_init 82 = .ok (.aload_n 0, 1) := by decide +kernel
theorem dX9_init_83 : decode cX9_init 83 = .ok (.sipush 160, 3) := by decide +kernel
theorem dX9_init_86 : decode cX9_init 86 = .ok (.newarray .long, 2) := by decide +kernel
theorem dX9_init_88 : decode cX9_init 88 = .ok (.putfield 40, 3) := by decide +kernel
theorem dX9_init_91 : decode cX9_init 91 = .ok (.aload_n 0, 1) := by decide +kernel
theorem dX9_init_92 : decode cX9_init 92 = .ok (.bipush 40, 2) := by decide +kernel
theorem dX9_init_94 : decode cX9_init 94 = .ok (.newarray .long, 2) := by decide +kernel
theorem dX9_init_96 : decode cX9_init 96 = .ok (.putfield 44, 3) := by decide +kernel
theorem dX9_init_99 : decode cX9_init 99 = .ok (.return_, 1) := by decide +kernel
theorem dX9_in_0 : decode cX9_in 0 = .ok (.iload_n 0, 1) := by decide +kernel
theorem dX9_in_1 : decode cX9_in 1 = .ok (.iload_n 1, 1) := by decide +kernel
theorem dX9_in_2 : decode cX9_in 2 = .ok (.if_icmp .lt 12, 3) := by decide +kernel
theorem dX9_in_5 : decode cX9_in 5 = .ok (.iload_n 0, 1) := by decide +kernel
theorem dX9_in_6 : decode cX9_in 6 = .ok (.iload_n 2, 1) := by decide +kernel
theorem dX9_in_7 : decode cX9_in 7 = .ok (.if_icmp .gt 7, 3) := by decide +kernel
theorem dX9_in_10 : decode cX9_in 10 = .ok (.iconst 1, 1) := by decide +kernel
theorem dX9_in_11 : decode cX9_in 11 = .ok (.goto 4, 3) := by decide +kernel
theorem dX9_in_14 : decode cX9_in 14 = .ok (.iconst 0, 1) := by decide +kernel
theorem dX9_in_15 : decode cX9_in 15 = .ok (.ireturn, 1) := by decide +kernel
theorem dX9_no_0 : decode cX9_no 0 = .ok (.aload_n 0, 1) := by decide +kernel
theorem dX9_no_1 : decode cX9_no 1 = .ok (.getfield 22, 3) := by decide +kernel
theorem dX9_no_4 : decode cX9_no 4 = .ok (.iload_n 1, 1) := by decide +kernel
theorem dX9_no_5 : decode cX9_no 5 = .ok (.dup2, 1) := by decide +kernel
theorem dX9_no_6 : decode cX9_no 6 = .ok (.iaload, 1) := by decide +kernel
theorem dX9_no_7 : decode cX9_no 7 = .ok (.iconst 1, 1) := by decide +kernel
theorem dX9_no_8 : decode cX9_no 8 = .ok (.iadd, 1) := by decide +kernel
theorem dX9_no_9 : decode cX9_no 9 = .ok (.iastore, 1) := by decide +kernel
theorem dX9_no_10 : decode cX9_no 10 = .ok (.ldc 47, 2) := by decide +kernel
theorem dX9_no_12 : decode cX9_no 12 = .ok (.iload_n 1, 1) := by decide +kernel
theorem dX9_no_13 : decode cX9_no 13 = .ok (.isub, 1) := by decide +kernel
theorem dX9_no_14 : decode cX9_no 14 = .ok (.ireturn, 1) := by decide +kernel
theorem dX9_lay_0 : decode cX9_lay 0 = .ok (.iconst 0, 1) := by decide +kernel
theorem dX9_lay_1 : decode cX9_lay 1 = .ok (.istore_n 2, 1) := by decide +kernel
theorem dX9_lay_2 : decode cX9_lay 2 = .ok (.iload_n 2, 1) := by decide +kernel
theorem dX9_lay_3 : decode cX9_lay 3 = .ok (.bipush 93, 2) := by decide +kernel
theorem dX9_lay_5 : decode cX9_lay 5 = .ok (.if_icmp .ge 15, 3) := by decide +kernel
theorem dX9_lay_8 : decode cX9_lay 8 = .ok (.aload_n 1, 1) := by decide +kernel
theorem dX9_lay_9 : decode cX9_lay 9 = .ok (.iload_n 2, 1) := by decide +kernel
theorem dX9_lay_10 : decode cX9_lay 10 = .ok (.aload_n 0, 1) := by decide +kernel
theorem dX9_lay_11 : decode cX9_lay 11 = .ok (.iload_n 2, 1) := by decide +kernel
theorem dX9_lay_12 : decode cX9_lay 12 = .ok (.iaload, 1) := by decide +kernel
theorem dX9_lay_13 : decode cX9_lay 13 = .ok (.iastore, 1) := by decide +kernel
theorem dX9_lay_14 : decode cX9_lay 14 = .ok (.iinc 2 1, 3) := by decide +kernel
theorem dX9_lay_17 : decode cX9_lay 17 = .ok (.goto (-15), 3) := by decide +kernel
theorem dX9_lay_20 : decode cX9_lay 20 = .ok (.return_, 1) := by decide +kernel
theorem dX9_puts_0 : decode cX9_puts 0 = .ok (.aload_n 0, 1) := by decide +kernel
theorem dX9_puts_1 : decode cX9_puts 1 = .ok (.getfield 9, 3) := by decide +kernel
theorem dX9_puts_4 : decode cX9_puts 4 = .ok (.iload_n 1, 1) := by decide +kernel
theorem dX9_puts_5 : decode cX9_puts 5 = .ok (.iaload, 1) := by decide +kernel
theorem dX9_puts_6 : decode cX9_puts 6 = .ok (.istore_n 3, 1) := by decide +kernel
theorem dX9_puts_7 : decode cX9_puts 7 = .ok (.aload_n 0, 1) := by decide +kernel
theorem dX9_puts_8 : decode cX9_puts 8 = .ok (.getfield 9, 3) := by decide +kernel
theorem dX9_puts_11 : decode cX9_puts 11 = .ok (.iload_n 1, 1) := by decide +kernel
theorem dX9_puts_12 : decode cX9_puts 12 = .ok (.iload_n 2, 1) := by decide +kernel
theorem dX9_puts_13 : decode cX9_puts 13 = .ok (.iastore, 1) := by decide +kernel
theorem dX9_puts_14 : decode cX9_puts 14 = .ok (.iload_n 3, 1) := by decide +kernel
theorem dX9_puts_15 : decode cX9_puts 15 = .ok (.ireturn, 1) := by decide +kernel
set_option maxRecDepth 20000 in
theorem ggX9_isPlace_X9_in : GoodIn wsX9_isPlace wsX9_in := goodIn_r _ [4] (by decide +kernel) (by decide +kernel)
set_option maxRecDepth 20000 in
theorem gX9_isPlace_X9_in : GoodIn wsX9_isPlace (va_wsS RX9 48 yX9_in wsX9_in) := goodIn_app (goodIn_of _ (by decide +kernel)) ggX9_isPlace_X9_in
theorem dX9_isPlace_0 : decode cX9_isPlace 0 = .ok (.iload_n 0, 1) := by decide +kernel
theorem dX9_isPlace_1 : decode cX9_isPlace 1 = .ok (.iconst 0, 1) := by decide +kernel
theorem dX9_isPlace_2 : decode cX9_isPlace 2 = .ok (.bipush 15, 2) := by decide +kernel
theorem dX9_isPlace_4 : decode cX9_isPlace 4 = .ok (.invokestatic 48, 3) := by decide +kernel
theorem dX9_isPlace_7 : decode cX9_isPlace 7 = .ok (.ireturn, 1) := by decide +kernel
set_option maxRecDepth 20000 in
theorem ggX9_isKind_X9_in : GoodIn wsX9_isKind wsX9_in := goodIn_r _ [4] (by decide +kernel) (by decide +kernel)
set_option maxRecDepth 20000 in
theorem gX9_isKind_X9_in : GoodIn wsX9_isKind (va_wsS RX9 48 yX9_in wsX9_in) := goodIn_app (goodIn_of _ (by decide +kernel)) ggX9_isKind_X9_in
theorem dX9_isKind_0 : decode cX9_isKind 0 = .ok (.iload_n 0, 1) := by decide +kernel
theorem dX9_isKind_1 : decode cX9_isKind 1 = .ok (.iconst 0, 1) := by decide +kernel
theorem dX9_isKind_2 : decode cX9_isKind 2 = .ok (.iconst 5, 1) := by decide +kernel
theorem dX9_isKind_3 : decode cX9_isKind 3 = .ok (.invokestatic 48, 3) := by decide +kernel
theorem dX9_isKind_6 : decode cX9_isKind 6 = .ok (.ireturn, 1) := by decide +kernel
set_option maxRecDepth 20000 in
theorem ggX9_isBeing_X9_in : GoodIn wsX9_isBeing wsX9_in := goodIn_r _ [5] (by decide +kernel) (by decide +kernel)
set_option maxRecDepth 20000 in
theorem gX9_isBeing_X9_in : GoodIn wsX9_isBeing (va_wsS RX9 48 yX9_in wsX9_in) := goodIn_app (goodIn_of _ (by decide +kernel)) ggX9_isBeing_X9_in
theorem dX9_isBeing_0 : decode cX9_isBeing 0 = .ok (.iload_n 1, 1) := by decide +kernel
theorem dX9_isBeing_1 : decode cX9_isBeing 1 = .ok (.iconst 0, 1) := by decide +kernel
theorem dX9_isBeing_2 : decode cX9_isBeing 2 = .ok (.aload_n 0, 1) := by decide +kernel
theorem dX9_isBeing_3 : decode cX9_isBeing 3 = .ok (.getfield 9, 3) := by decide +kernel
theorem dX9_isBeing_6 : decode cX9_isBeing 6 = .ok (.iconst 1, 1) := by decide +kernel
theorem dX9_isBeing_7 : decode cX9_isBeing 7 = .ok (.iaload, 1) := by decide +kernel
theorem dX9_isBeing_8 : decode cX9_isBeing 8 = .ok (.iconst 1, 1) := by decide +kernel
theorem dX9_isBeing_9 : decode cX9_isBeing 9 = .ok (.isub, 1) := by decide +kernel
theorem dX9_isBeing_10 : decode cX9_isBeing 10 = .ok (.invokestatic 48, 3) := by decide +kernel
theorem dX9_isBeing_13 : decode cX9_isBeing 13 = .ok (.ireturn, 1) := by decide +kernel
set_option maxRecDepth 20000 in
theorem ggX9_isTask_X9_in : GoodIn wsX9_isTask wsX9_in := goodIn_r _ [5] (by decide +kernel) (by decide +kernel)
set_option maxRecDepth 20000 in
theorem gX9_isTask_X9_in : GoodIn wsX9_isTask (va_wsS RX9 48 yX9_in wsX9_in) := goodIn_app (goodIn_of _ (by decide +kernel)) ggX9_isTask_X9_in
theorem dX9_isTask_0 : decode cX9_isTask 0 = .ok (.iload_n 1, 1) := by decide +kernel
theorem dX9_isTask_1 : decode cX9_isTask 1 = .ok (.iconst 0, 1) := by decide +kernel
theorem dX9_isTask_2 : decode cX9_isTask 2 = .ok (.aload_n 0, 1) := by decide +kernel
theorem dX9_isTask_3 : decode cX9_isTask 3 = .ok (.getfield 9, 3) := by decide +kernel
theorem dX9_isTask_6 : decode cX9_isTask 6 = .ok (.iconst 2, 1) := by decide +kernel
theorem dX9_isTask_7 : decode cX9_isTask 7 = .ok (.iaload, 1) := by decide +kernel
theorem dX9_isTask_8 : decode cX9_isTask 8 = .ok (.iconst 1, 1) := by decide +kernel
theorem dX9_isTask_9 : decode cX9_isTask 9 = .ok (.isub, 1) := by decide +kernel
theorem dX9_isTask_10 : decode cX9_isTask 10 = .ok (.invokestatic 48, 3) := by decide +kernel
theorem dX9_isTask_13 : decode cX9_isTask 13 = .ok (.ireturn, 1) := by decide +kernel
theorem dX9_has_0 : decode cX9_has 0 = .ok (.iload_n 0, 1) := by decide +kernel
theorem dX9_has_1 : decode cX9_has 1 = .ok (.iload_n 1, 1) := by decide +kernel
theorem dX9_has_2 : decode cX9_has 2 = .ok (.ishr, 1) := by decide +kernel
theorem dX9_has_3 : decode cX9_has 3 = .ok (.iconst 1, 1) := by decide +kernel
theorem dX9_has_4 : decode cX9_has 4 = .ok (.iand, 1) := by decide +kernel
theorem dX9_has_5 : decode cX9_has 5 = .ok (.iconst 1, 1) := by decide +kernel
theorem dX9_has_6 : decode cX9_has 6 = .ok (.if_icmp .ne 7, 3) := by decide +kernel
theorem dX9_has_9 : decode cX9_has 9 = .ok (.iconst 1, 1) := by decide +kernel
theorem dX9_has_10 : decode cX9_has 10 = .ok (.goto 4, 3) := by decide +kernel
theorem dX9_has_13 : decode cX9_has 13 = .ok (.iconst 0, 1) := by decide +kernel
theorem dX9_has_14 : decode cX9_has 14 = .ok (.ireturn, 1) := by decide +kernel
theorem dX9_ones_0 : decode cX9_ones 0 = .ok (.iconst 0, 1) := by decide +kernel
theorem dX9_ones_1 : decode cX9_ones 1 = .ok (.istore_n 1, 1) := by decide +kernel
theorem dX9_ones_2 : decode cX9_ones 2 = .ok (.iconst 0, 1) := by decide +kernel
theorem dX9_ones_3 : decode cX9_ones 3 = .ok (.istore_n 2, 1) := by decide +kernel
theorem dX9_ones_4 : decode cX9_ones 4 = .ok (.iload_n 2, 1) := by decide +kernel
theorem dX9_ones_5 : decode cX9_ones 5 = .ok (.bipush 32, 2) := by decide +kernel
theorem dX9_ones_7 : decode cX9_ones 7 = .ok (.if_icmp .ge 17, 3) := by decide +kernel
theorem dX9_ones_10 : decode cX9_ones 10 = .ok (.iload_n 1, 1) := by decide +kernel
theorem dX9_ones_11 : decode cX9_ones 11 = .ok (.iload_n 0, 1) := by decide +kernel
theorem dX9_ones_12 : decode cX9_ones 12 = .ok (.iload_n 2, 1) := by decide +kernel
theorem dX9_ones_13 : decode cX9_ones 13 = .ok (.iushr, 1) := by decide +kernel
theorem dX9_ones_14 : decode cX9_ones 14 = .ok (.iconst 1, 1) := by decide +kernel
theorem dX9_ones_15 : decode cX9_ones 15 = .ok (.iand, 1) := by decide +kernel
theorem dX9_ones_16 : decode cX9_ones 16 = .ok (.iadd, 1) := by decide +kernel
theorem dX9_ones_17 : decode cX9_ones 17 = .ok (.istore_n 1, 1) := by decide +kernel
theorem dX9_ones_18 : decode cX9_ones 18 = .ok (.iinc 2 1, 3) := by decide +kernel
theorem dX9_ones_21 : decode cX9_ones 21 = .ok (.goto (-17), 3) := by decide +kernel
theorem dX9_ones_24 : decode cX9_ones 24 = .ok (.iload_n 1, 1) := by decide +kernel
theorem dX9_ones_25 : decode cX9_ones 25 = .ok (.ireturn, 1) := by decide +kernel
theorem dX9_at_0 : decode cX9_at 0 = .ok (.bipush 19, 2) := by decide +kernel
theorem dX9_at_2 : decode cX9_at 2 = .ok (.iconst 5, 1) := by decide +kernel
theorem dX9_at_3 : decode cX9_at 3 = .ok (.iload_n 1, 1) := by decide +kernel
theorem dX9_at_4 : decode cX9_at 4 = .ok (.imul, 1) := by decide +kernel
theorem dX9_at_5 : decode cX9_at 5 = .ok (.iadd, 1) := by decide +kernel
theorem dX9_at_6 : decode cX9_at 6 = .ok (.iload_n 2, 1) := by decide +kernel
theorem dX9_at_7 : decode cX9_at 7 = .ok (.iadd, 1) := by decide +kernel
theorem dX9_at_8 : decode cX9_at 8 = .ok (.ireturn, 1) := by decide +kernel
theorem dX9_is_0 : decode cX9_is 0 = .ok (.aload_n 0, 1) := by decide +kernel
theorem dX9_is_1 : decode cX9_is 1 = .ok (.getfield 9, 3) := by decide +kernel
theorem dX9_is_4 : decode cX9_is 4 = .ok (.bipush 19, 2) := by decide +kernel
theorem dX9_is_6 : decode cX9_is 6 = .ok (.iconst 5, 1) := by decide +kernel
theorem dX9_is_7 : decode cX9_is 7 = .ok (.iload_n 1, 1) := by decide +kernel
theorem dX9_is_8 : decode cX9_is 8 = .ok (.imul, 1) := by decide +kernel
theorem dX9_is_9 : decode cX9_is 9 = .ok (.iadd, 1) := by decide +kernel
theorem dX9_is_10 : decode cX9_is 10 = .ok (.iload_n 2, 1) := by decide +kernel
theorem dX9_is_11 : decode cX9_is 11 = .ok (.iadd, 1) := by decide +kernel
theorem dX9_is_12 : decode cX9_is 12 = .ok (.iaload, 1) := by decide +kernel
theorem dX9_is_13 : decode cX9_is 13 = .ok (.ireturn, 1) := by decide +kernel
theorem dX9_taskIs_0 : decode cX9_taskIs 0 = .ok (.aload_n 0, 1) := by decide +kernel
theorem dX9_taskIs_1 : decode cX9_taskIs 1 = .ok (.getfield 9, 3) := by decide +kernel
theorem dX9_taskIs_4 : decode cX9_taskIs 4 = .ok (.bipush 69, 2) := by decide +kernel
theorem dX9_taskIs_6 : decode cX9_taskIs 6 = .ok (.iconst 3, 1) := by decide +kernel
theorem dX9_taskIs_7 : decode cX9_taskIs 7 = .ok (.iload_n 1, 1) := by decide +kernel
theorem dX9_taskIs_8 : decode cX9_taskIs 8 = .ok (.imul, 1) := by decide +kernel
theorem dX9_taskIs_9 : decode cX9_taskIs 9 = .ok (.iadd, 1) := by decide +kernel
theorem dX9_taskIs_10 : decode cX9_taskIs 10 = .ok (.iload_n 2, 1) := by decide +kernel
theorem dX9_taskIs_11 : decode cX9_taskIs 11 = .ok (.iadd, 1) := by decide +kernel
theorem dX9_taskIs_12 : decode cX9_taskIs 12 = .ok (.iaload, 1) := by decide +kernel
theorem dX9_taskIs_13 : decode cX9_taskIs 13 = .ok (.ireturn, 1) := by decide +kernel
theorem dX9_apart_0 : decode cX9_apart 0 = .ok (.iload_n 0, 1) := by decide +kernel
theorem dX9_apart_1 : decode cX9_apart 1 = .ok (.iconst 4, 1) := by decide +kernel
theorem dX9_apart_2 : decode cX9_apart 2 = .ok (.idiv, 1) := by decide +kernel
theorem dX9_apart_3 : decode cX9_apart 3 = .ok (.iload_n 1, 1) := by decide +kernel
theorem dX9_apart_4 : decode cX9_apart 4 = .ok (.iconst 4, 1) := by decide +kernel
theorem dX9_apart_5 : decode cX9_apart 5 = .ok (.idiv, 1) := by decide +kernel
theorem dX9_apart_6 : decode cX9_apart 6 = .ok (.isub, 1) := by decide +kernel
theorem dX9_apart_7 : decode cX9_apart 7 = .ok (.istore_n 2, 1) := by decide +kernel
theorem dX9_apart_8 : decode cX9_apart 8 = .ok (.iload_n 0, 1) := by decide +kernel
theorem dX9_apart_9 : decode cX9_apart 9 = .ok (.iconst 4, 1) := by decide +kernel
theorem dX9_apart_10 : decode cX9_apart 10 = .ok (.irem, 1) := by decide +kernel
theorem dX9_apart_11 : decode cX9_apart 11 = .ok (.iload_n 1, 1) := by decide +kernel
theorem dX9_apart_12 : decode cX9_apart 12 = .ok (.iconst 4, 1) := by decide +kernel
theorem dX9_apart_13 : decode cX9_apart 13 = .ok (.irem, 1) := by decide +kernel
theorem dX9_apart_14 : decode cX9_apart 14 = .ok (.isub, 1) := by decide +kernel
theorem dX9_apart_15 : decode cX9_apart 15 = .ok (.istore_n 3, 1) := by decide +kernel
theorem dX9_apart_16 : decode cX9_apart 16 = .ok (.iload_n 2, 1) := by decide +kernel
theorem dX9_apart_17 : decode cX9_apart 17 = .ok (.ifCond .ge 8, 3) := by decide +kernel
theorem dX9_apart_20 : decode cX9_apart 20 = .ok (.iload_n 2, 1) := by decide +kernel
theorem dX9_apart_21 : decode cX9_apart 21 = .ok (.ineg, 1) := by decide +kernel
theorem dX9_apart_22 : decode cX9_apart 22 = .ok (.goto 4, 3) := by decide +kernel
theorem dX9_apart_25 : decode cX9_apart 25 = .ok (.iload_n 2, 1) := by decide +kernel
theorem dX9_apart_26 : decode cX9_apart 26 = .ok (.iload_n 3, 1) := by decide +kernel
theorem dX9_apart_27 : decode cX9_apart 27 = .ok (.ifCond .ge 8, 3) := by decide +kernel
theorem dX9_apart_30 : decode cX9_apart 30 = .ok (.iload_n 3, 1) := by decide +kernel
theorem dX9_apart_31 : decode cX9_apart 31 = .ok (.ineg, 1) := by decide +kernel
theorem dX9_apart_32 : decode cX9_apart 32 = .ok (.goto 4, 3) := by decide +kernel
theorem dX9_apart_35 : decode cX9_apart 35 = .ok (.iload_n 3, 1) := by decide +kernel
theorem dX9_apart_36 : decode cX9_apart 36 = .ok (.iadd, 1) := by decide +kernel
theorem dX9_apart_37 : decode cX9_apart 37 = .ok (.ireturn, 1) := by decide +kernel
theorem dX9_sings_0 : decode cX9_sings 0 = .ok (.iload_n 0, 1) := by decide +kernel
theorem dX9_sings_1 : decode cX9_sings 1 = .ok (.iconst 1, 1) := by decide +kernel
theorem dX9_sings_2 : decode cX9_sings 2 = .ok (.if_icmp .eq 8, 3) := by decide +kernel
theorem dX9_sings_5 : decode cX9_sings 5 = .ok (.iload_n 0, 1) := by decide +kernel
theorem dX9_sings_6 : decode cX9_sings 6 = .ok (.iconst 4, 1) := by decide +kernel
theorem dX9_sings_7 : decode cX9_sings 7 = .ok (.if_icmp .ne 7, 3) := by decide +kernel
theorem dX9_sings_10 : decode cX9_sings 10 = .ok (.iconst 1, 1) := by decide +kernel
theorem dX9_sings_11 : decode cX9_sings 11 = .ok (.goto 4, 3) := by decide +kernel
theorem dX9_sings_14 : decode cX9_sings 14 = .ok (.iconst 0, 1) := by decide +kernel
theorem dX9_sings_15 : decode cX9_sings 15 = .ok (.ireturn, 1) := by decide +kernel
set_option maxRecDepth 20000 in
theorem ggX9_isHeard_X9_is : GoodIn wsX9_isHeard wsX9_is := goodIn_r _ [6, 1, 10, 11, 12, 13, 14, 15, 16, 17, 18, 19, 20, 21, 22, 23, 24, 25, 26] (by decide +kernel) (by decide +kernel)
set_option maxRecDepth 20000 in
theorem gX9_isHeard_X9_is : GoodIn wsX9_isHeard (wsV RX9 52 RX9 yX9_is wsX9_is) := goodIn_app (goodIn_of _ (by decide +kernel)) ggX9_isHeard_X9_is
set_option maxRecDepth 20000 in
theorem ggX9_isHeard_X9_sings : GoodIn wsX9_isHeard wsX9_sings := goodIn_r _ [9] (by decide +kernel) (by decide +kernel)
set_option maxRecDepth 20000 in
theorem gX9_isHeard_X9_sings : GoodIn wsX9_isHeard (va_wsS RX9 56 yX9_sings wsX9_sings) := goodIn_app (goodIn_of _ (by decide +kernel)) ggX9_isHeard_X9_sings
theorem dX9_isHeard_0 : decode cX9_isHeard 0 = .ok (.iconst 0, 1) := by decide +kernel
theorem dX9_isHeard_1 : decode cX9_isHeard 1 = .ok (.istore_n 2, 1) := by decide +kernel
theorem dX9_isHeard_2 : decode cX9_isHeard 2 = .ok (.iconst 0, 1) := by decide +kernel
theorem dX9_isHeard_3 : decode cX9_isHeard 3 = .ok (.istore_n 3, 1) := by decide +kernel
theorem dX9_isHeard_4 : decode cX9_isHeard 4 = .ok (.iload_n 3, 1) := by decide +kernel
theorem dX9_isHeard_5 : decode cX9_isHeard 5 = .ok (.aload_n 0, 1) := by decide +kernel
theorem dX9_isHeard_6 : decode cX9_isHeard 6 = .ok (.getfield 9, 3) := by decide +kernel
theorem dX9_isHeard_9 : decode cX9_isHeard 9 = .ok (.iconst 1, 1) := by decide +kernel
theorem dX9_isHeard_10 : decode cX9_isHeard 10 = .ok (.iaload, 1) := by decide +kernel
theorem dX9_isHeard_11 : decode cX9_isHeard 11 = .ok (.if_icmp .ge 49, 3) := by decide +kernel
theorem dX9_isHeard_14 : decode cX9_isHeard 14 = .ok (.iload_n 2, 1) := by decide +kernel
theorem dX9_isHeard_15 : decode cX9_isHeard 15 = .ok (.iload_n 3, 1) := by decide +kernel
theorem dX9_isHeard_16 : decode cX9_isHeard 16 = .ok (.iload_n 1, 1) := by decide +kernel
theorem dX9_isHeard_17 : decode cX9_isHeard 17 = .ok (.if_icmp .eq 34, 3) := by decide +kernel
theorem dX9_isHeard_20 : decode cX9_isHeard 20 = .ok (.aload_n 0, 1) := by decide +kernel
theorem dX9_isHeard_21 : decode cX9_isHeard 21 = .ok (.iload_n 3, 1) := by decide +kernel
theorem dX9_isHeard_22 : decode cX9_isHeard 22 = .ok (.iconst 0, 1) := by decide +kernel
theorem dX9_isHeard_23 : decode cX9_isHeard 23 = .ok (.invokevirtual 52, 3) := by decide +kernel
theorem dX9_isHeard_26 : decode cX9_isHeard 26 = .ok (.invokestatic 56, 3) := by decide +kernel
theorem dX9_isHeard_29 : decode cX9_isHeard 29 = .ok (.ifCond .eq 22, 3) := by decide +kernel
theorem dX9_isHeard_32 : decode cX9_isHeard 32 = .ok (.aload_n 0, 1) := by decide +kernel
theorem dX9_isHeard_33 : decode cX9_isHeard 33 = .ok (.iload_n 3, 1) := by decide +kernel
theorem dX9_isHeard_34 : decode cX9_isHeard 34 = .ok (.iconst 1, 1) := by decide +kernel
theorem dX9_isHeard_35 : decode cX9_isHeard 35 = .ok (.invokevirtual 52, 3) := by decide +kernel
theorem dX9_isHeard_38 : decode cX9_isHeard 38 = .ok (.aload_n 0, 1) := by decide +kernel
theorem dX9_isHeard_39 : decode cX9_isHeard 39 = .ok (.iload_n 1, 1) := by decide +kernel
theorem dX9_isHeard_40 : decode cX9_isHeard 40 = .ok (.iconst 1, 1) := by decide +kernel
theorem dX9_isHeard_41 : decode cX9_isHeard 41 = .ok (.invokevirtual 52, 3) := by decide +kernel
theorem dX9_isHeard_44 : decode cX9_isHeard 44 = .ok (.if_icmp .ne 7, 3) := by decide +kernel
theorem dX9_isHeard_47 : decode cX9_isHeard 47 = .ok (.iconst 1, 1) := by decide +kernel
theorem dX9_isHeard_48 : decode cX9_isHeard 48 = .ok (.goto 4, 3) := by decide +kernel
theorem dX9_isHeard_51 : decode cX9_isHeard 51 = .ok (.iconst 0, 1) := by decide +kernel
theorem dX9_isHeard_52 : decode cX9_isHeard 52 = .ok (.ior, 1) := by decide +kernel
theorem dX9_isHeard_53 : decode cX9_isHeard 53 = .ok (.istore_n 2, 1) := by decide +kernel
theorem dX9_isHeard_54 : decode cX9_isHeard 54 = .ok (.iinc 3 1, 3) := by decide +kernel
theorem dX9_isHeard_57 : decode cX9_isHeard 57 = .ok (.goto (-53), 3) := by decide +kernel
theorem dX9_isHeard_60 : decode cX9_isHeard 60 = .ok (.iload_n 2, 1) := by decide +kernel
theorem dX9_isHeard_61 : decode cX9_isHeard 61 = .ok (.ireturn, 1) := by decide +kernel
set_option maxRecDepth 20000 in
theorem ggX9_shines_X9_is : GoodIn wsX9_shines wsX9_is := goodIn_r _ [5, 6, 14, 15, 16, 17, 18, 19, 20, 21, 22, 23, 24, 25, 26, 27, 28, 29, 30] (by decide +kernel) (by decide +kernel)
set_option maxRecDepth 20000 in
theorem gX9_shines_X9_is : GoodIn wsX9_shines (wsV RX9 52 RX9 yX9_is wsX9_is) := goodIn_app (goodIn_of _ (by decide +kernel)) ggX9_shines_X9_is
set_option maxRecDepth 20000 in
theorem ggX9_shines_X9_isHeard : GoodIn wsX9_shines wsX9_isHeard := goodIn_r _ [10, 6, 1, 2, 3, 4, 5, 11, 12, 13, 14, 15, 16, 17, 18, 19, 20, 21, 22, 23, 24, 25, 26, 27, 28, 29, 30] (by decide +kernel) (by decide +kernel)
set_option maxRecDepth 20000 in
theorem gX9_shines_X9_isHeard : GoodIn wsX9_shines (wsV RX9 60 RX9 yX9_isHeard wsX9_isHeard) := goodIn_app (goodIn_of _ (by decide +kernel)) ggX9_shines_X9_isHeard
theorem dX9_shines_0 : decode cX9_shines 0 = .ok (.aload_n 0, 1) := by decide +kernel
theorem dX9_shines_1 : decode cX9_shines 1 = .ok (.iload_n 1, 1) := by decide +kernel
theorem dX9_shines_2 : decode cX9_shines 2 = .ok (.iconst 3, 1) := by decide +kernel
theorem dX9_shines_3 : decode cX9_shines 3 = .ok (.invokevirtual 52, 3) := by decide +kernel
theorem dX9_shines_6 : decode cX9_shines 6 = .ok (.aload_n 0, 1) := by decide +kernel
theorem dX9_shines_7 : decode cX9_shines 7 = .ok (.iload_n 1, 1) := by decide +kernel
theorem dX9_shines_8 : decode cX9_shines 8 = .ok (.iconst 4, 1) := by decide +kernel
theorem dX9_shines_9 : decode cX9_shines 9 = .ok (.invokevirtual 52, 3) := by decide +kernel
theorem dX9_shines_12 : decode cX9_shines 12 = .ok (.if_icmp .le 19, 3) := by decide +kernel
theorem dX9_shines_15 : decode cX9_shines 15 = .ok (.aload_n 0, 1) := by decide +kernel
theorem dX9_shines_16 : decode cX9_shines 16 = .ok (.iload_n 1, 1) := by decide +kernel
theorem dX9_shines_17 : decode cX9_shines 17 = .ok (.iconst 3, 1) := by decide +kernel
theorem dX9_shines_18 : decode cX9_shines 18 = .ok (.invokevirtual 52, 3) := by decide +kernel
theorem dX9_shines_21 : decode cX9_shines 21 = .ok (.aload_n 0, 1) := by decide +kernel
theorem dX9_shines_22 : decode cX9_shines 22 = .ok (.iload_n 1, 1) := by decide +kernel
theorem dX9_shines_23 : decode cX9_shines 23 = .ok (.iconst 4, 1) := by decide +kernel
theorem dX9_shines_24 : decode cX9_shines 24 = .ok (.invokevirtual 52, 3) := by decide +kernel
theorem dX9_shines_27 : decode cX9_shines 27 = .ok (.isub, 1) := by decide +kernel
theorem dX9_shines_28 : decode cX9_shines 28 = .ok (.goto 4, 3) := by decide +kernel
theorem dX9_shines_31 : decode cX9_shines 31 = .ok (.iconst 0, 1) := by decide +kernel
theorem dX9_shines_32 : decode cX9_shines 32 = .ok (.istore_n 2, 1) := by decide +kernel
theorem dX9_shines_33 : decode cX9_shines 33 = .ok (.aload_n 0, 1) := by decide +kernel
theorem dX9_shines_34 : decode cX9_shines 34 = .ok (.iload_n 1, 1) := by decide +kernel
theorem dX9_shines_35 : decode cX9_shines 35 = .ok (.invokevirtual 60, 3) := by decide +kernel
theorem dX9_shines_38 : decode cX9_shines 38 = .ok (.ifCond .eq 11, 3) := by decide +kernel
theorem dX9_shines_41 : decode cX9_shines 41 = .ok (.iload_n 2, 1) := by decide +kernel
theorem dX9_shines_42 : decode cX9_shines 42 = .ok (.iload_n 2, 1) := by decide +kernel
theorem dX9_shines_43 : decode cX9_shines 43 = .ok (.iconst 2, 1) := by decide +kernel
theorem dX9_shines_44 : decode cX9_shines 44 = .ok (.idiv, 1) := by decide +kernel
theorem dX9_shines_45 : decode cX9_shines 45 = .ok (.iadd, 1) := by decide +kernel
theorem dX9_shines_46 : decode cX9_shines 46 = .ok (.goto 4, 3) := by decide +kernel
theorem dX9_shines_49 : decode cX9_shines 49 = .ok (.iload_n 2, 1) := by decide +kernel
theorem dX9_shines_50 : decode cX9_shines 50 = .ok (.istore_n 3, 1) := by decide +kernel
theorem dX9_shines_51 : decode cX9_shines 51 = .ok (.aload_n 0, 1) := by decide +kernel
theorem dX9_shines_52 : decode cX9_shines 52 = .ok (.iload_n 1, 1) := by decide +kernel
theorem dX9_shines_53 : decode cX9_shines 53 = .ok (.iconst 0, 1) := by decide +kernel
theorem dX9_shines_54 : decode cX9_shines 54 = .ok (.invokevirtual 52, 3) := by decide +kernel
theorem dX9_shines_57 : decode cX9_shines 57 = .ok (.tableswitch 64 0 4 #[35, 37, 39, 56, 60], 35) := by decide +kernel
theorem dX9_shines_92 : decode cX9_shines 92 = .ok (.iload_n 2, 1) := by decide +kernel
theorem dX9_shines_93 : decode cX9_shines 93 = .ok (.ireturn, 1) := by decide +kernel
theorem dX9_shines_94 : decode cX9_shines 94 = .ok (.iload_n 3, 1) := by decide +kernel
theorem dX9_shines_95 : decode cX9_shines 95 = .ok (.ireturn, 1) := by decide +kernel
theorem dX9_shines_96 : decode cX9_shines 96 = .ok (.aload_n 0, 1) := by decide +kernel
theorem dX9_shines_97 : decode cX9_shines 97 = .ok (.iload_n 1, 1) := by decide +kernel
theorem dX9_shines_98 : decode cX9_shines 98 = .ok (.iconst 4, 1) := by decide +kernel
theorem dX9_shines_99 : decode cX9_shines 99 = .ok (.invokevirtual 52, 3) := by decide +kernel
theorem dX9_shines_102 : decode cX9_shines 102 = .ok (.bipush 6, 2) := by decide +kernel
theorem dX9_shines_104 : decode cX9_shines 104 = .ok (.if_icmp .lt 7, 3) := by decide +kernel
theorem dX9_shines_107 : decode cX9_shines 107 = .ok (.iconst 0, 1) := by decide +kernel
theorem dX9_shines_108 : decode cX9_shines 108 = .ok (.goto 4, 3) := by decide +kernel
theorem dX9_shines_111 : decode cX9_shines 111 = .ok (.iload_n 2, 1) := by decide +kernel
theorem dX9_shines_112 : decode cX9_shines 112 = .ok (.ireturn, 1) := by decide +kernel
theorem dX9_shines_113 : decode cX9_shines 113 = .ok (.iconst 3, 1) := by decide +kernel
theorem dX9_shines_114 : decode cX9_shines 114 = .ok (.iload_n 2, 1) := by decide +kernel
theorem dX9_shines_115 : decode cX9_shines 115 = .ok (.imul, 1) := by decide +kernel
theorem dX9_shines_116 : decode cX9_shines 116 = .ok (.ireturn, 1) := by decide +kernel
theorem dX9_shines_117 : decode cX9_shines 117 = .ok (.iconst 2, 1) := by decide +kernel
theorem dX9_shines_118 : decode cX9_shines 118 = .ok (.iload_n 3, 1) := by decide +kernel
theorem dX9_shines_119 : decode cX9_shines 119 = .ok (.imul, 1) := by decide +kernel
theorem dX9_shines_120 : decode cX9_shines 120 = .ok (.ireturn, 1) := by decide +kernel
theorem dX9_shines_121 : decode cX9_shines 121 = .ok (.iconst 0, 1) := by decide +kernel
theorem dX9_shines_122 : decode cX9_shines 122 = .ok (.ireturn, 1) := by decide +kernel
set_option maxRecDepth 20000 in
theorem ggX9_givesTo_X9_shines : GoodIn wsX9_givesTo wsX9_shines := goodIn_r _ [5, 6, 7, 8, 4, 9, 10, 11, 12, 13, 14, 15, 16, 17, 21, 22, 23, 24, 25, 26, 27, 28, 29, 30, 31, 32, 33, 34, 35, 36, 37] (by decide +kernel) (by decide +kernel)
set_option maxRecDepth 20000 in
theorem gX9_givesTo_X9_shines : GoodIn wsX9_givesTo (wsV RX9 63 RX9 yX9_shines wsX9_shines) := goodIn_app (goodIn_of _ (by decide +kernel)) ggX9_givesTo_X9_shines
set_option maxRecDepth 20000 in
theorem ggX9_givesTo_X9_is : GoodIn wsX9_givesTo wsX9_is := goodIn_r _ [9, 10, 21, 22, 23, 24, 25, 26, 27, 28, 29, 30, 31, 32, 33, 34, 35, 36, 37] (by decide +kernel) (by decide +kernel)
set_option maxRecDepth 20000 in
theorem gX9_givesTo_X9_is : GoodIn wsX9_givesTo (wsV RX9 52 RX9 yX9_is wsX9_is) := goodIn_app (goodIn_of _ (by decide +kernel)) ggX9_givesTo_X9_is
set_option maxRecDepth 20000 in
theorem ggX9_givesTo_X9_apart : GoodIn wsX9_givesTo wsX9_apart := goodIn_r _ [20] (by decide +kernel) (by decide +kernel)
set_option maxRecDepth 20000 in
theorem gX9_givesTo_X9_apart : GoodIn wsX9_givesTo (va_wsS RX9 67 yX9_apart wsX9_apart) := goodIn_app (goodIn_of _ (by decide +kernel)) ggX9_givesTo_X9_apart
theorem dX9_givesTo_0 : decode cX9_givesTo 0 = .ok (.aload_n 0, 1) := by decide +kernel
theorem dX9_givesTo_1 : decode cX9_givesTo 1 = .ok (.iload_n 1, 1) := by decide +kernel
theorem dX9_givesTo_2 : decode cX9_givesTo 2 = .ok (.invokevirtual 63, 3) := by decide +kernel
theorem dX9_givesTo_5 : decode cX9_givesTo 5 = .ok (.aload_n 0, 1) := by decide +kernel
theorem dX9_givesTo_6 : decode cX9_givesTo 6 = .ok (.iload_n 1, 1) := by decide +kernel
theorem dX9_givesTo_7 : decode cX9_givesTo 7 = .ok (.iconst 1, 1) := by decide +kernel
theorem dX9_givesTo_8 : decode cX9_givesTo 8 = .ok (.invokevirtual 52, 3) := by decide +kernel
theorem dX9_givesTo_11 : decode cX9_givesTo 11 = .ok (.iload_n 2, 1) := by decide +kernel
theorem dX9_givesTo_12 : decode cX9_givesTo 12 = .ok (.invokestatic 67, 3) := by decide +kernel
theorem dX9_givesTo_15 : decode cX9_givesTo 15 = .ok (.ishr, 1) := by decide +kernel
theorem dX9_givesTo_16 : decode cX9_givesTo 16 = .ok (.ireturn, 1) := by decide +kernel
set_option maxRecDepth 20000 in
theorem ggX9_lightOf_X9_givesTo : GoodIn wsX9_lightOf wsX9_givesTo := goodIn_r _ [6, 7, 8, 9, 5, 10, 11, 12, 13, 14, 1, 15, 16, 17, 18, 19, 20, 21, 22, 23, 24, 25, 26, 27, 28, 29, 30, 31, 32, 33, 34, 35, 36, 37, 38, 39, 40, 41] (by decide +kernel) (by decide +kernel)
set_option maxRecDepth 20000 in
theorem gX9_lightOf_X9_givesTo : GoodIn wsX9_lightOf (wsV RX9 70 RX9 yX9_givesTo wsX9_givesTo) := goodIn_app (goodIn_of _ (by decide +kernel)) ggX9_lightOf_X9_givesTo
theorem dX9_lightOf_0 : decode cX9_lightOf 0 = .ok (.aload_n 0, 1) := by decide +kernel
theorem dX9_lightOf_1 : decode cX9_lightOf 1 = .ok (.getfield 9, 3) := by decide +kernel
theorem dX9_lightOf_4 : decode cX9_lightOf 4 = .ok (.iconst 3, 1) := by decide +kernel
theorem dX9_lightOf_5 : decode cX9_lightOf 5 = .ok (.iload_n 1, 1) := by decide +kernel
theorem dX9_lightOf_6 : decode cX9_lightOf 6 = .ok (.iadd, 1) := by decide +kernel
theorem dX9_lightOf_7 : decode cX9_lightOf 7 = .ok (.iaload, 1) := by decide +kernel
theorem dX9_lightOf_8 : decode cX9_lightOf 8 = .ok (.istore_n 2, 1) := by decide +kernel
theorem dX9_lightOf_9 : decode cX9_lightOf 9 = .ok (.iconst 0, 1) := by decide +kernel
theorem dX9_lightOf_10 : decode cX9_lightOf 10 = .ok (.istore_n 3, 1) := by decide +kernel
theorem dX9_lightOf_11 : decode cX9_lightOf 11 = .ok (.iload_n 3, 1) := by decide +kernel
theorem dX9_lightOf_12 : decode cX9_lightOf 12 = .ok (.aload_n 0, 1) := by decide +kernel
theorem dX9_lightOf_13 : decode cX9_lightOf 13 = .ok (.getfield 9, 3) := by decide +kernel
theorem dX9_lightOf_16 : decode cX9_lightOf 16 = .ok (.iconst 1, 1) := by decide +kernel
theorem dX9_lightOf_17 : decode cX9_lightOf 17 = .ok (.iaload, 1) := by decide +kernel
theorem dX9_lightOf_18 : decode cX9_lightOf 18 = .ok (.if_icmp .ge 18, 3) := by decide +kernel
theorem dX9_lightOf_21 : decode cX9_lightOf 21 = .ok (.iload_n 2, 1) := by decide +kernel
theorem dX9_lightOf_22 : decode cX9_lightOf 22 = .ok (.aload_n 0, 1) := by decide +kernel
theorem dX9_lightOf_23 : decode cX9_lightOf 23 = .ok (.iload_n 3, 1) := by decide +kernel
theorem dX9_lightOf_24 : decode cX9_lightOf 24 = .ok (.iload_n 1, 1) := by decide +kernel
theorem dX9_lightOf_25 : decode cX9_lightOf 25 = .ok (.invokevirtual 70, 3) := by decide +kernel
theorem dX9_lightOf_28 : decode cX9_lightOf 28 = .ok (.iadd, 1) := by decide +kernel
theorem dX9_lightOf_29 : decode cX9_lightOf 29 = .ok (.istore_n 2, 1) := by decide +kernel
theorem dX9_lightOf_30 : decode cX9_lightOf 30 = .ok (.iinc 3 1, 3) := by decide +kernel
theorem dX9_lightOf_33 : decode cX9_lightOf 33 = .ok (.goto (-22), 3) := by decide +kernel
theorem dX9_lightOf_36 : decode cX9_lightOf 36 = .ok (.iload_n 2, 1) := by decide +kernel
theorem dX9_lightOf_37 : decode cX9_lightOf 37 = .ok (.ireturn, 1) := by decide +kernel
set_option maxRecDepth 20000 in
theorem ggX9_lightOfAll_X9_lightOf : GoodIn wsX9_lightOfAll wsX9_lightOf := goodIn_r _ [5, 6, 7, 8, 9, 4, 10, 11, 12, 13, 14, 15, 16, 17, 18, 19, 20, 21, 22, 23, 24, 25, 26, 27, 28, 29, 30, 31, 32, 33, 34, 35, 36, 37, 38, 39, 40, 41, 42, 43, 44, 45] (by decide +kernel) (by decide +kernel)
set_option maxRecDepth 20000 in
theorem gX9_lightOfAll_X9_lightOf : GoodIn wsX9_lightOfAll (wsV RX9 73 RX9 yX9_lightOf wsX9_lightOf) := goodIn_app (goodIn_of _ (by decide +kernel)) ggX9_lightOfAll_X9_lightOf
theorem dX9_lightOfAll_0 : decode cX9_lightOfAll 0 = .ok (.iconst 0, 1) := by decide +kernel
theorem dX9_lightOfAll_1 : decode cX9_lightOfAll 1 = .ok (.istore_n 1, 1) := by decide +kernel
theorem dX9_lightOfAll_2 : decode cX9_lightOfAll 2 = .ok (.iconst 0, 1) := by decide +kernel
theorem dX9_lightOfAll_3 : decode cX9_lightOfAll 3 = .ok (.istore_n 2, 1) := by decide +kernel
theorem dX9_lightOfAll_4 : decode cX9_lightOfAll 4 = .ok (.iload_n 2, 1) := by decide +kernel
theorem dX9_lightOfAll_5 : decode cX9_lightOfAll 5 = .ok (.bipush 16, 2) := by decide +kernel
theorem dX9_lightOfAll_7 : decode cX9_lightOfAll 7 = .ok (.if_icmp .ge 17, 3) := by decide +kernel
theorem dX9_lightOfAll_10 : decode cX9_lightOfAll 10 = .ok (.iload_n 1, 1) := by decide +kernel
theorem dX9_lightOfAll_11 : decode cX9_lightOfAll 11 = .ok (.aload_n 0, 1) := by decide +kernel
theorem dX9_lightOfAll_12 : decode cX9_lightOfAll 12 = .ok (.iload_n 2, 1) := by decide +kernel
theorem dX9_lightOfAll_13 : decode cX9_lightOfAll 13 = .ok (.invokevirtual 73, 3) := by decide +kernel
theorem dX9_lightOfAll_16 : decode cX9_lightOfAll 16 = .ok (.iadd, 1) := by decide +kernel
theorem dX9_lightOfAll_17 : decode cX9_lightOfAll 17 = .ok (.istore_n 1, 1) := by decide +kernel
theorem dX9_lightOfAll_18 : decode cX9_lightOfAll 18 = .ok (.iinc 2 1, 3) := by decide +kernel
theorem dX9_lightOfAll_21 : decode cX9_lightOfAll 21 = .ok (.goto (-17), 3) := by decide +kernel
theorem dX9_lightOfAll_24 : decode cX9_lightOfAll 24 = .ok (.iload_n 1, 1) := by decide +kernel
theorem dX9_lightOfAll_25 : decode cX9_lightOfAll 25 = .ok (.ireturn, 1) := by decide +kernel
set_option maxRecDepth 20000 in
theorem ggX9_bowl_X9_isPlace : GoodIn wsX9_bowl wsX9_isPlace := goodIn_r _ [4, 5, 6, 3, 7] (by decide +kernel) (by decide +kernel)
set_option maxRecDepth 20000 in
theorem gX9_bowl_X9_isPlace : GoodIn wsX9_bowl (va_wsS RX9 76 yX9_isPlace wsX9_isPlace) := goodIn_app (goodIn_of _ (by decide +kernel)) ggX9_bowl_X9_isPlace
set_option maxRecDepth 20000 in
theorem ggX9_bowl_X9_in : GoodIn wsX9_bowl wsX9_in := goodIn_r _ [7] (by decide +kernel) (by decide +kernel)
set_option maxRecDepth 20000 in
theorem gX9_bowl_X9_in : GoodIn wsX9_bowl (va_wsS RX9 48 yX9_in wsX9_in) := goodIn_app (goodIn_of _ (by decide +kernel)) ggX9_bowl_X9_in
set_option maxRecDepth 20000 in
theorem ggX9_bowl_X9_puts : GoodIn wsX9_bowl wsX9_puts := goodIn_r _ [11, 12, 19, 20, 21, 22, 23, 24, 25, 26, 27, 28, 29, 30, 31, 32, 33, 34, 35] (by decide +kernel) (by decide +kernel)
set_option maxRecDepth 20000 in
theorem gX9_bowl_X9_puts : GoodIn wsX9_bowl (wsV RX9 79 RX9 yX9_puts wsX9_puts) := goodIn_app (goodIn_of _ (by decide +kernel)) ggX9_bowl_X9_puts
set_option maxRecDepth 20000 in
theorem ggX9_bowl_X9_no : GoodIn wsX9_bowl wsX9_no := goodIn_r _ [16, 17, 18, 19, 20, 21, 22, 23, 24, 25, 26, 27, 28, 29, 30, 31, 32, 33, 34, 35] (by decide +kernel) (by decide +kernel)
set_option maxRecDepth 20000 in
theorem gX9_bowl_X9_no : GoodIn wsX9_bowl (wsV RX9 82 RX9 yX9_no wsX9_no) := goodIn_app (goodIn_of _ (by decide +kernel)) ggX9_bowl_X9_no
theorem dX9_bowl_0 : decode cX9_bowl 0 = .ok (.iload_n 1, 1) := by decide +kernel
theorem dX9_bowl_1 : decode cX9_bowl 1 = .ok (.invokestatic 76, 3) := by decide +kernel
theorem dX9_bowl_4 : decode cX9_bowl 4 = .ok (.ifCond .eq 24, 3) := by decide +kernel
theorem dX9_bowl_7 : decode cX9_bowl 7 = .ok (.iload_n 2, 1) := by decide +kernel
theorem dX9_bowl_8 : decode cX9_bowl 8 = .ok (.iconst 0, 1) := by decide +kernel
theorem dX9_bowl_9 : decode cX9_bowl 9 = .ok (.bipush 99, 2) := by decide +kernel
theorem dX9_bowl_11 : decode cX9_bowl 11 = .ok (.invokestatic 48, 3) := by decide +kernel
theorem dX9_bowl_14 : decode cX9_bowl 14 = .ok (.ifCond .eq 14, 3) := by decide +kernel
theorem dX9_bowl_17 : decode cX9_bowl 17 = .ok (.aload_n 0, 1) := by decide +kernel
theorem dX9_bowl_18 : decode cX9_bowl 18 = .ok (.iconst 3, 1) := by decide +kernel
theorem dX9_bowl_19 : decode cX9_bowl 19 = .ok (.iload_n 1, 1) := by decide +kernel
theorem dX9_bowl_20 : decode cX9_bowl 20 = .ok (.iadd, 1) := by decide +kernel
theorem dX9_bowl_21 : decode cX9_bowl 21 = .ok (.iload_n 2, 1) := by decide +kernel
theorem dX9_bowl_22 : decode cX9_bowl 22 = .ok (.invokevirtual 79, 3) := by decide +kernel
theorem dX9_bowl_25 : decode cX9_bowl 25 = .ok (.goto 8, 3) := by decide +kernel
theorem dX9_bowl_28 : decode cX9_bowl 28 = .ok (.aload_n 0, 1) := by decide +kernel
theorem dX9_bowl_29 : decode cX9_bowl 29 = .ok (.iconst 0, 1) := by decide +kernel
theorem dX9_bowl_30 : decode cX9_bowl 30 = .ok (.invokevirtual 82, 3) := by decide +kernel
theorem dX9_bowl_33 : decode cX9_bowl 33 = .ok (.ireturn, 1) := by decide +kernel
set_option maxRecDepth 20000 in
theorem ggX9_light_X9_isPlace : GoodIn wsX9_light wsX9_isPlace := goodIn_r _ [4, 5, 6, 3, 7] (by decide +kernel) (by decide +kernel)
set_option maxRecDepth 20000 in
theorem gX9_light_X9_isPlace : GoodIn wsX9_light (va_wsS RX9 76 yX9_isPlace wsX9_isPlace) := goodIn_app (goodIn_of _ (by decide +kernel)) ggX9_light_X9_isPlace
set_option maxRecDepth 20000 in
theorem ggX9_light_X9_lightOf : GoodIn wsX9_light wsX9_lightOf := goodIn_r _ [11, 12, 13, 14, 15, 3, 16, 17, 18, 19, 20, 21, 22, 23, 24, 25, 26, 27, 28, 29, 30, 31, 32, 33, 34, 41, 42, 43, 44, 45, 46, 47, 48, 49, 50, 51, 52, 53, 54, 55, 56, 57] (by decide +kernel) (by decide +kernel)
set_option maxRecDepth 20000 in
theorem gX9_light_X9_lightOf : GoodIn wsX9_light (wsV RX9 73 RX9 yX9_lightOf wsX9_lightOf) := goodIn_app (goodIn_of _ (by decide +kernel)) ggX9_light_X9_lightOf
set_option maxRecDepth 20000 in
theorem ggX9_light_X9_no : GoodIn wsX9_light wsX9_no := goodIn_r _ [38, 39, 40, 41, 42, 43, 44, 45, 46, 47, 48, 49, 50, 51, 52, 53, 54, 55, 56, 57] (by decide +kernel) (by decide +kernel)
set_option maxRecDepth 20000 in
theorem gX9_light_X9_no : GoodIn wsX9_light (wsV RX9 82 RX9 yX9_no wsX9_no) := goodIn_app (goodIn_of _ (by decide +kernel)) ggX9_light_X9_no
theorem dX9_light_0 : decode cX9_light 0 = .ok (.iload_n 1, 1) := by decide +kernel
theorem dX9_light_1 : decode cX9_light 1 = .ok (.invokestatic 76, 3) := by decide +kernel
theorem dX9_light_4 : decode cX9_light 4 = .ok (.ifCond .eq 11, 3) := by decide +kernel
theorem dX9_light_7 : decode cX9_light 7 = .ok (.aload_n 0, 1) := by decide +kernel
theorem dX9_light_8 : decode cX9_light 8 = .ok (.iload_n 1, 1) := by decide +kernel
theorem dX9_light_9 : decode cX9_light 9 = .ok (.invokevirtual 73, 3) := by decide +kernel
theorem dX9_light_12 : decode cX9_light 12 = .ok (.goto 8, 3) := by decide +kernel
theorem dX9_light_15 : decode cX9_light 15 = .ok (.aload_n 0, 1) := by decide +kernel
theorem dX9_light_16 : decode cX9_light 16 = .ok (.iconst 0, 1) := by decide +kernel
theorem dX9_light_17 : decode cX9_light 17 = .ok (.invokevirtual 82, 3) := by decide +kernel
theorem dX9_light_20 : decode cX9_light 20 = .ok (.ireturn, 1) := by decide +kernel
set_option maxRecDepth 20000 in
theorem ggX9_brightest_X9_lightOf : GoodIn wsX9_brightest wsX9_lightOf := goodIn_r _ [5, 6, 7, 8, 9, 4, 10, 11, 12, 13, 14, 15, 16, 17, 18, 19, 20, 21, 22, 23, 24, 25, 26, 27, 28, 29, 30, 31, 32, 33, 34, 35, 36, 37, 38, 39, 40, 41, 42, 43, 44, 45] (by decide +kernel) (by decide +kernel)
set_option maxRecDepth 20000 in
theorem gX9_brightest_X9_lightOf : GoodIn wsX9_brightest (wsV RX9 73 RX9 yX9_lightOf wsX9_lightOf) := goodIn_app (goodIn_of _ (by decide +kernel)) ggX9_brightest_X9_lightOf
theorem dX9_brightest_0 : decode cX9_brightest 0 = .ok (.iconst 0, 1) := by decide +kernel
theorem dX9_brightest_1 : decode cX9_brightest 1 = .ok (.istore_n 1, 1) := by decide +kernel
theorem dX9_brightest_2 : decode cX9_brightest 2 = .ok (.iconst 1, 1) := by decide +kernel
theorem dX9_brightest_3 : decode cX9_brightest 3 = .ok (.istore_n 2, 1) := by decide +kernel
theorem dX9_brightest_4 : decode cX9_brightest 4 = .ok (.iload_n 2, 1) := by decide +kernel
theorem dX9_brightest_5 : decode cX9_brightest 5 = .ok (.bipush 16, 2) := by decide +kernel
theorem dX9_brightest_7 : decode cX9_brightest 7 = .ok (.if_icmp .ge 28, 3) := by decide +kernel
theorem dX9_brightest_10 : decode cX9_brightest 10 = .ok (.aload_n 0, 1) := by decide +kernel
theorem dX9_brightest_11 : decode cX9_brightest 11 = .ok (.iload_n 2, 1) := by decide +kernel
theorem dX9_brightest_12 : decode cX9_brightest 12 = .ok (.invokevirtual 73, 3) := by decide +kernel
theorem dX9_brightest_15 : decode cX9_brightest 15 = .ok (.aload_n 0, 1) := by decide +kernel
theorem dX9_brightest_16 : decode cX9_brightest 16 = .ok (.iload_n 1, 1) := by decide +kernel
theorem dX9_brightest_17 : decode cX9_brightest 17 = .ok (.invokevirtual 73, 3) := by decide +kernel
theorem dX9_brightest_20 : decode cX9_brightest 20 = .ok (.if_icmp .le 7, 3) := by decide +kernel
theorem dX9_brightest_23 : decode cX9_brightest 23 = .ok (.iload_n 2, 1) := by decide +kernel
theorem dX9_brightest_24 : decode cX9_brightest 24 = .ok (.goto 4, 3) := by decide +kernel
theorem dX9_brightest_27 : decode cX9_brightest 27 = .ok (.iload_n 1, 1) := by decide +kernel
theorem dX9_brightest_28 : decode cX9_brightest 28 = .ok (.istore_n 1, 1) := by decide +kernel
theorem dX9_brightest_29 : decode cX9_brightest 29 = .ok (.iinc 2 1, 3) := by decide +kernel
theorem dX9_brightest_32 : decode cX9_brightest 32 = .ok (.goto (-28), 3) := by decide +kernel
theorem dX9_brightest_35 : decode cX9_brightest 35 = .ok (.iload_n 1, 1) := by decide +kernel
theorem dX9_brightest_36 : decode cX9_brightest 36 = .ok (.ireturn, 1) := by decide +kernel
set_option maxRecDepth 20000 in
theorem ggX9_lit_X9_in : GoodIn wsX9_lit wsX9_in := goodIn_r _ [4] (by decide +kernel) (by decide +kernel)
set_option maxRecDepth 20000 in
theorem gX9_lit_X9_in : GoodIn wsX9_lit (va_wsS RX9 48 yX9_in wsX9_in) := goodIn_app (goodIn_of _ (by decide +kernel)) ggX9_lit_X9_in
set_option maxRecDepth 20000 in
theorem ggX9_lit_X9_no : GoodIn wsX9_lit wsX9_no := goodIn_r _ [8, 9, 10, 38, 39, 40, 41, 42, 43, 44, 45, 46, 47, 48, 49, 50, 51, 52, 53, 54] (by decide +kernel) (by decide +kernel)
set_option maxRecDepth 20000 in
theorem gX9_lit_X9_no : GoodIn wsX9_lit (wsV RX9 82 RX9 yX9_no wsX9_no) := goodIn_app (goodIn_of _ (by decide +kernel)) ggX9_lit_X9_no
set_option maxRecDepth 20000 in
theorem ggX9_lit_X9_lightOf : GoodIn wsX9_lit wsX9_lightOf := goodIn_r _ [14, 15, 16, 17, 18, 3, 19, 20, 21, 22, 23, 24, 25, 26, 27, 28, 29, 30, 31, 32, 33, 34, 35, 36, 37, 38, 39, 40, 41, 42, 43, 44, 45, 46, 47, 48, 49, 50, 51, 52, 53, 54] (by decide +kernel) (by decide +kernel)
set_option maxRecDepth 20000 in
theorem gX9_lit_X9_lightOf : GoodIn wsX9_lit (wsV RX9 73 RX9 yX9_lightOf wsX9_lightOf) := goodIn_app (goodIn_of _ (by decide +kernel)) ggX9_lit_X9_lightOf
theorem dX9_lit_0 : decode cX9_lit 0 = .ok (.iload_n 1, 1) := by decide +kernel
theorem dX9_lit_1 : decode cX9_lit 1 = .ok (.iconst 0, 1) := by decide +kernel
theorem dX9_lit_2 : decode cX9_lit 2 = .ok (.sipush 9999, 3) := by decide +kernel
theorem dX9_lit_5 : decode cX9_lit 5 = .ok (.invokestatic 48, 3) := by decide +kernel
theorem dX9_lit_8 : decode cX9_lit 8 = .ok (.ifCond .ne 9, 3) := by decide +kernel
theorem dX9_lit_11 : decode cX9_lit 11 = .ok (.aload_n 0, 1) := by decide +kernel
theorem dX9_lit_12 : decode cX9_lit 12 = .ok (.iconst 0, 1) := by decide +kernel
theorem dX9_lit_13 : decode cX9_lit 13 = .ok (.invokevirtual 82, 3) := by decide +kernel
theorem dX9_lit_16 : decode cX9_lit 16 = .ok (.ireturn, 1) := by decide +kernel
theorem dX9_lit_17 : decode cX9_lit 17 = .ok (.iconst 0, 1) := by decide +kernel
theorem dX9_lit_18 : decode cX9_lit 18 = .ok (.istore_n 2, 1) := by decide +kernel
theorem dX9_lit_19 : decode cX9_lit 19 = .ok (.iconst 0, 1) := by decide +kernel
theorem dX9_lit_20 : decode cX9_lit 20 = .ok (.istore_n 3, 1) := by decide +kernel
theorem dX9_lit_21 : decode cX9_lit 21 = .ok (.iload_n 3, 1) := by decide +kernel
theorem dX9_lit_22 : decode cX9_lit 22 = .ok (.bipush 16, 2) := by decide +kernel
theorem dX9_lit_24 : decode cX9_lit 24 = .ok (.if_icmp .ge 28, 3) := by decide +kernel
theorem dX9_lit_27 : decode cX9_lit 27 = .ok (.iload_n 2, 1) := by decide +kernel
theorem dX9_lit_28 : decode cX9_lit 28 = .ok (.aload_n 0, 1) := by decide +kernel
theorem dX9_lit_29 : decode cX9_lit 29 = .ok (.iload_n 3, 1) := by decide +kernel
theorem dX9_lit_30 : decode cX9_lit 30 = .ok (.invokevirtual 73, 3) := by decide +kernel
theorem dX9_lit_33 : decode cX9_lit 33 = .ok (.iload_n 1, 1) := by decide +kernel
theorem dX9_lit_34 : decode cX9_lit 34 = .ok (.if_icmp .lt 9, 3) := by decide +kernel
theorem dX9_lit_37 : decode cX9_lit 37 = .ok (.iconst 1, 1) := by decide +kernel
theorem dX9_lit_38 : decode cX9_lit 38 = .ok (.iload_n 3, 1) := by decide +kernel
theorem dX9_lit_39 : decode cX9_lit 39 = .ok (.ishl, 1) := by decide +kernel
theorem dX9_lit_40 : decode cX9_lit 40 = .ok (.goto 4, 3) := by decide +kernel
theorem dX9_lit_43 : decode cX9_lit 43 = .ok (.iconst 0, 1) := by decide +kernel
theorem dX9_lit_44 : decode cX9_lit 44 = .ok (.ior, 1) := by decide +kernel
theorem dX9_lit_45 : decode cX9_lit 45 = .ok (.istore_n 2, 1) := by decide +kernel
theorem dX9_lit_46 : decode cX9_lit 46 = .ok (.iinc 3 1, 3) := by decide +kernel
theorem dX9_lit_49 : decode cX9_lit 49 = .ok (.goto (-28), 3) := by decide +kernel
theorem dX9_lit_52 : decode cX9_lit 52 = .ok (.iload_n 2, 1) := by decide +kernel
theorem dX9_lit_53 : decode cX9_lit 53 = .ok (.ireturn, 1) := by decide +kernel
set_option maxRecDepth 20000 in
theorem ggX9_adds_X9_at : GoodIn wsX9_adds wsX9_at := goodIn_r _ [6] (by decide +kernel) (by decide +kernel)
set_option maxRecDepth 20000 in
theorem gX9_adds_X9_at : GoodIn wsX9_adds (wsV RX9 85 RX9 yX9_at wsX9_at) := goodIn_app (goodIn_of _ (by decide +kernel)) ggX9_adds_X9_at
theorem dX9_adds_0 : decode cX9_adds 0 = .ok (.aload_n 0, 1) := by decide +kernel
theorem dX9_adds_1 : decode cX9_adds 1 = .ok (.aload_n 0, 1) := by decide +kernel
theorem dX9_adds_2 : decode cX9_adds 2 = .ok (.getfield 9, 3) := by decide +kernel
theorem dX9_adds_5 : decode cX9_adds 5 = .ok (.iconst 1, 1) := by decide +kernel
theorem dX9_adds_6 : decode cX9_adds 6 = .ok (.iaload, 1) := by decide +kernel
theorem dX9_adds_7 : decode cX9_adds 7 = .ok (.iconst 0, 1) := by decide +kernel
theorem dX9_adds_8 : decode cX9_adds 8 = .ok (.invokevirtual 85, 3) := by decide +kernel
theorem dX9_adds_11 : decode cX9_adds 11 = .ok (.istore 6, 2) := by decide +kernel
theorem dX9_adds_13 : decode cX9_adds 13 = .ok (.aload_n 0, 1) := by decide +kernel
theorem dX9_adds_14 : decode cX9_adds 14 = .ok (.getfield 9, 3) := by decide +kernel
theorem dX9_adds_17 : decode cX9_adds 17 = .ok (.iload 6, 2) := by decide +kernel
theorem dX9_adds_19 : decode cX9_adds 19 = .ok (.iconst 0, 1) := by decide +kernel
theorem dX9_adds_20 : decode cX9_adds 20 = .ok (.iadd, 1) := by decide +kernel
theorem dX9_adds_21 : decode cX9_adds 21 = .ok (.iload_n 1, 1) := by decide +kernel
theorem dX9_adds_22 : decode cX9_adds 22 = .ok (.iastore, 1) := by decide +kernel
theorem dX9_adds_23 : decode cX9_adds 23 = .ok (.aload_n 0, 1) := by decide +kernel
theorem dX9_adds_24 : decode cX9_adds 24 = .ok (.getfield 9, 3) := by decide +kernel
theorem dX9_adds_27 : decode cX9_adds 27 = .ok (.iload 6, 2) := by decide +kernel
theorem dX9_adds_29 : decode cX9_adds 29 = .ok (.iconst 1, 1) := by decide +kernel
theorem dX9_adds_30 : decode cX9_adds 30 = .ok (.iadd, 1) := by decide +kernel
theorem dX9_adds_31 : decode cX9_adds 31 = .ok (.iload_n 2, 1) := by decide +kernel
theorem dX9_adds_32 : decode cX9_adds 32 = .ok (.iastore, 1) := by decide +kernel
theorem dX9_adds_33 : decode cX9_adds 33 = .ok (.aload_n 0, 1) := by decide +kernel
theorem dX9_adds_34 : decode cX9_adds 34 = .ok (.getfield 9, 3) := by decide +kernel
theorem dX9_adds_37 : decode cX9_adds 37 = .ok (.iload 6, 2) := by decide +kernel
theorem dX9_adds_39 : decode cX9_adds 39 = .ok (.iconst 2, 1) := by decide +kernel
theorem dX9_adds_40 : decode cX9_adds 40 = .ok (.iadd, 1) := by decide +kernel
theorem dX9_adds_41 : decode cX9_adds 41 = .ok (.iload_n 3, 1) := by decide +kernel
theorem dX9_adds_42 : decode cX9_adds 42 = .ok (.iastore, 1) := by decide +kernel
theorem dX9_adds_43 : decode cX9_adds 43 = .ok (.aload_n 0, 1) := by decide +kernel
theorem dX9_adds_44 : decode cX9_adds 44 = .ok (.getfield 9, 3) := by decide +kernel
theorem dX9_adds_47 : decode cX9_adds 47 = .ok (.iload 6, 2) := by decide +kernel
theorem dX9_adds_49 : decode cX9_adds 49 = .ok (.iconst 3, 1) := by decide +kernel
theorem dX9_adds_50 : decode cX9_adds 50 = .ok (.iadd, 1) := by decide +kernel
theorem dX9_adds_51 : decode cX9_adds 51 = .ok (.iload 4, 2) := by decide +kernel
theorem dX9_adds_53 : decode cX9_adds 53 = .ok (.iastore, 1) := by decide +kernel
theorem dX9_adds_54 : decode cX9_adds 54 = .ok (.aload_n 0, 1) := by decide +kernel
theorem dX9_adds_55 : decode cX9_adds 55 = .ok (.getfield 9, 3) := by decide +kernel
theorem dX9_adds_58 : decode cX9_adds 58 = .ok (.iload 6, 2) := by decide +kernel
theorem dX9_adds_60 : decode cX9_adds 60 = .ok (.iconst 4, 1) := by decide +kernel
theorem dX9_adds_61 : decode cX9_adds 61 = .ok (.iadd, 1) := by decide +kernel
theorem dX9_adds_62 : decode cX9_adds 62 = .ok (.iload 5, 2) := by decide +kernel
theorem dX9_adds_64 : decode cX9_adds 64 = .ok (.iastore, 1) := by decide +kernel
theorem dX9_adds_65 : decode cX9_adds 65 = .ok (.aload_n 0, 1) := by decide +kernel
theorem dX9_adds_66 : decode cX9_adds 66 = .ok (.getfield 9, 3) := by decide +kernel
theorem dX9_adds_69 : decode cX9_adds 69 = .ok (.iconst 1, 1) := by decide +kernel
theorem dX9_adds_70 : decode cX9_adds 70 = .ok (.dup2, 1) := by decide +kernel
theorem dX9_adds_71 : decode cX9_adds 71 = .ok (.iaload, 1) := by decide +kernel
theorem dX9_adds_72 : decode cX9_adds 72 = .ok (.iconst 1, 1) := by decide +kernel
theorem dX9_adds_73 : decode cX9_adds 73 = .ok (.iadd, 1) := by decide +kernel
theorem dX9_adds_74 : decode cX9_adds 74 = .ok (.iastore, 1) := by decide +kernel
theorem dX9_adds_75 : decode cX9_adds 75 = .ok (.return_, 1) := by decide +kernel
set_option maxRecDepth 20000 in
theorem ggX9_being_X9_isKind : GoodIn wsX9_being wsX9_isKind := goodIn_r _ [5, 6, 7, 4, 8] (by decide +kernel) (by decide +kernel)
set_option maxRecDepth 20000 in
theorem gX9_being_X9_isKind : GoodIn wsX9_being (va_wsS RX9 88 yX9_isKind wsX9_isKind) := goodIn_app (goodIn_of _ (by decide +kernel)) ggX9_being_X9_isKind
set_option maxRecDepth 20000 in
theorem ggX9_being_X9_isPlace : GoodIn wsX9_being wsX9_isPlace := goodIn_r _ [11, 6, 7, 4, 8] (by decide +kernel) (by decide +kernel)
set_option maxRecDepth 20000 in
theorem gX9_being_X9_isPlace : GoodIn wsX9_being (va_wsS RX9 76 yX9_isPlace wsX9_isPlace) := goodIn_app (goodIn_of _ (by decide +kernel)) ggX9_being_X9_isPlace
set_option maxRecDepth 20000 in
theorem ggX9_being_X9_no : GoodIn wsX9_being wsX9_no := goodIn_r _ [15, 16, 17, 26, 27, 28, 29, 30, 31, 32, 33, 34, 35, 36, 37, 38, 39, 40, 41, 42] (by decide +kernel) (by decide +kernel)
set_option maxRecDepth 20000 in
theorem gX9_being_X9_no : GoodIn wsX9_being (wsV RX9 82 RX9 yX9_no wsX9_no) := goodIn_app (goodIn_of _ (by decide +kernel)) ggX9_being_X9_no
set_option maxRecDepth 20000 in
theorem ggX9_being_X9_adds : GoodIn wsX9_being wsX9_adds := goodIn_r _ [21, 1, 22, 23, 24, 4, 25, 26, 27, 28, 29, 30, 31, 32, 33, 34, 35, 36, 37, 38, 39, 40, 41, 42] (by decide +kernel) (by decide +kernel)
set_option maxRecDepth 20000 in
theorem gX9_being_X9_adds : GoodIn wsX9_being (wsV RX9 91 RX9 yX9_adds wsX9_adds) := goodIn_app (goodIn_of _ (by decide +kernel)) ggX9_being_X9_adds
theorem dX9_being_0 : decode cX9_being 0 = .ok (.iload_n 1, 1) := by decide +kernel
theorem dX9_being_1 : decode cX9_being 1 = .ok (.invokestatic 88, 3) := by decide +kernel
theorem dX9_being_4 : decode cX9_being 4 = .ok (.ifCond .eq 10, 3) := by decide +kernel
theorem dX9_being_7 : decode cX9_being 7 = .ok (.iload_n 2, 1) := by decide +kernel
theorem dX9_being_8 : decode cX9_being 8 = .ok (.invokestatic 76, 3) := by decide +kernel
theorem dX9_being_11 : decode cX9_being 11 = .ok (.ifCond .ne 9, 3) := by decide +kernel
theorem dX9_being_14 : decode cX9_being 14 = .ok (.aload_n 0, 1) := by decide +kernel
theorem dX9_being_15 : decode cX9_being 15 = .ok (.iconst 0, 1) := by decide +kernel
theorem dX9_being_16 : decode cX9_being 16 = .ok (.invokevirtual 82, 3) := by decide +kernel
theorem dX9_being_19 : decode cX9_being 19 = .ok (.ireturn, 1) := by decide +kernel
theorem dX9_being_20 : decode cX9_being 20 = .ok (.aload_n 0, 1) := by decide +kernel
theorem dX9_being_21 : decode cX9_being 21 = .ok (.getfield 9, 3) := by decide +kernel
theorem dX9_being_24 : decode cX9_being 24 = .ok (.iconst 1, 1) := by decide +kernel
theorem dX9_being_25 : decode cX9_being 25 = .ok (.iaload, 1) := by decide +kernel
theorem dX9_being_26 : decode cX9_being 26 = .ok (.bipush 10, 2) := by decide +kernel
theorem dX9_being_28 : decode cX9_being 28 = .ok (.if_icmp .ne 9, 3) := by decide +kernel
theorem dX9_being_31 : decode cX9_being 31 = .ok (.aload_n 0, 1) := by decide +kernel
theorem dX9_being_32 : decode cX9_being 32 = .ok (.iconst 1, 1) := by decide +kernel
theorem dX9_being_33 : decode cX9_being 33 = .ok (.invokevirtual 82, 3) := by decide +kernel
theorem dX9_being_36 : decode cX9_being 36 = .ok (.ireturn, 1) := by decide +kernel
theorem dX9_being_37 : decode cX9_being 37 = .ok (.aload_n 0, 1) := by decide +kernel
theorem dX9_being_38 : decode cX9_being 38 = .ok (.iload_n 1, 1) := by decide +kernel
theorem dX9_being_39 : decode cX9_being 39 = .ok (.iload_n 2, 1) := by decide +kernel
theorem dX9_being_40 : decode cX9_being 40 = .ok (.iload_n 2, 1) := by decide +kernel
theorem dX9_being_41 : decode cX9_being 41 = .ok (.bipush 20, 2) := by decide +kernel
theorem dX9_being_43 : decode cX9_being 43 = .ok (.iconst 0, 1) := by decide +kernel
theorem dX9_being_44 : decode cX9_being 44 = .ok (.invokevirtual 91, 3) := by decide +kernel
theorem dX9_being_47 : decode cX9_being 47 = .ok (.aload_n 0, 1) := by decide +kernel
theorem dX9_being_48 : decode cX9_being 48 = .ok (.getfield 9, 3) := by decide +kernel
theorem dX9_being_51 : decode cX9_being 51 = .ok (.iconst 1, 1) := by decide +kernel
theorem dX9_being_52 : decode cX9_being 52 = .ok (.iaload, 1) := by decide +kernel
theorem dX9_being_53 : decode cX9_being 53 = .ok (.iconst 1, 1) := by decide +kernel
theorem dX9_being_54 : decode cX9_being 54 = .ok (.isub, 1) := by decide +kernel
theorem dX9_being_55 : decode cX9_being 55 = .ok (.ireturn, 1) := by decide +kernel
set_option maxRecDepth 20000 in
theorem ggX9_of_X9_isBeing : GoodIn wsX9_of wsX9_isBeing := goodIn_r _ [5, 6, 7, 8, 4, 9, 34, 35, 36, 37, 38, 39, 40, 41, 42, 43, 44, 45, 46, 47, 48, 49, 50] (by decide +kernel) (by decide +kernel)
set_option maxRecDepth 20000 in
theorem gX9_of_X9_isBeing : GoodIn wsX9_of (wsV RX9 95 RX9 yX9_isBeing wsX9_isBeing) := goodIn_app (goodIn_of _ (by decide +kernel)) ggX9_of_X9_isBeing
set_option maxRecDepth 20000 in
theorem ggX9_of_X9_in : GoodIn wsX9_of wsX9_in := goodIn_r _ [9] (by decide +kernel) (by decide +kernel)
set_option maxRecDepth 20000 in
theorem gX9_of_X9_in : GoodIn wsX9_of (va_wsS RX9 48 yX9_in wsX9_in) := goodIn_app (goodIn_of _ (by decide +kernel)) ggX9_of_X9_in
set_option maxRecDepth 20000 in
theorem ggX9_of_X9_no : GoodIn wsX9_of wsX9_no := goodIn_r _ [13, 14, 15, 34, 35, 36, 37, 38, 39, 40, 41, 42, 43, 44, 45, 46, 47, 48, 49, 50] (by decide +kernel) (by decide +kernel)
set_option maxRecDepth 20000 in
theorem gX9_of_X9_no : GoodIn wsX9_of (wsV RX9 82 RX9 yX9_no wsX9_no) := goodIn_app (goodIn_of _ (by decide +kernel)) ggX9_of_X9_no
set_option maxRecDepth 20000 in
theorem ggX9_of_X9_shines : GoodIn wsX9_of wsX9_shines := goodIn_r _ [19, 20, 21, 22, 4, 23, 6, 24, 25, 26, 27, 28, 29, 30, 34, 35, 36, 37, 38, 39, 40, 41, 42, 43, 44, 45, 46, 47, 48, 49, 50] (by decide +kernel) (by decide +kernel)
set_option maxRecDepth 20000 in
theorem gX9_of_X9_shines : GoodIn wsX9_of (wsV RX9 63 RX9 yX9_shines wsX9_shines) := goodIn_app (goodIn_of _ (by decide +kernel)) ggX9_of_X9_shines
set_option maxRecDepth 20000 in
theorem ggX9_of_X9_is : GoodIn wsX9_of wsX9_is := goodIn_r _ [23, 6, 34, 35, 36, 37, 38, 39, 40, 41, 42, 43, 44, 45, 46, 47, 48, 49, 50] (by decide +kernel) (by decide +kernel)
set_option maxRecDepth 20000 in
theorem gX9_of_X9_is : GoodIn wsX9_of (wsV RX9 52 RX9 yX9_is wsX9_is) := goodIn_app (goodIn_of _ (by decide +kernel)) ggX9_of_X9_is
set_option maxRecDepth 20000 in
theorem ggX9_of_X9_apart : GoodIn wsX9_of wsX9_apart := goodIn_r _ [33] (by decide +kernel) (by decide +kernel)
set_option maxRecDepth 20000 in
theorem gX9_of_X9_apart : GoodIn wsX9_of (va_wsS RX9 67 yX9_apart wsX9_apart) := goodIn_app (goodIn_of _ (by decide +kernel)) ggX9_of_X9_apart
theorem dX9_of_0 : decode cX9_of 0 = .ok (.aload_n 0, 1) := by decide +kernel
theorem dX9_of_1 : decode cX9_of 1 = .ok (.iload_n 1, 1) := by decide +kernel
theorem dX9_of_2 : decode cX9_of 2 = .ok (.invokevirtual 95, 3) := by decide +kernel
theorem dX9_of_5 : decode cX9_of 5 = .ok (.ifCond .eq 13, 3) := by decide +kernel
theorem dX9_of_8 : decode cX9_of 8 = .ok (.iload_n 2, 1) := by decide +kernel
theorem dX9_of_9 : decode cX9_of 9 = .ok (.iconst 0, 1) := by decide +kernel
theorem dX9_of_10 : decode cX9_of 10 = .ok (.bipush 6, 2) := by decide +kernel
theorem dX9_of_12 : decode cX9_of 12 = .ok (.invokestatic 48, 3) := by decide +kernel
theorem dX9_of_15 : decode cX9_of 15 = .ok (.ifCond .ne 9, 3) := by decide +kernel
theorem dX9_of_18 : decode cX9_of 18 = .ok (.aload_n 0, 1) := by decide +kernel
theorem dX9_of_19 : decode cX9_of 19 = .ok (.iconst 0, 1) := by decide +kernel
theorem dX9_of_20 : decode cX9_of 20 = .ok (.invokevirtual 82, 3) := by decide +kernel
theorem dX9_of_23 : decode cX9_of 23 = .ok (.ireturn, 1) := by decide +kernel
theorem dX9_of_24 : decode cX9_of 24 = .ok (.iload_n 2, 1) := by decide +kernel
theorem dX9_of_25 : decode cX9_of 25 = .ok (.iconst 5, 1) := by decide +kernel
theorem dX9_of_26 : decode cX9_of 26 = .ok (.if_icmp .ne 11, 3) := by decide +kernel
theorem dX9_of_29 : decode cX9_of 29 = .ok (.aload_n 0, 1) := by decide +kernel
theorem dX9_of_30 : decode cX9_of 30 = .ok (.iload_n 1, 1) := by decide +kernel
theorem dX9_of_31 : decode cX9_of 31 = .ok (.invokevirtual 63, 3) := by decide +kernel
theorem dX9_of_34 : decode cX9_of 34 = .ok (.goto 33, 3) := by decide +kernel
theorem dX9_of_37 : decode cX9_of 37 = .ok (.iload_n 2, 1) := by decide +kernel
theorem dX9_of_38 : decode cX9_of 38 = .ok (.bipush 6, 2) := by decide +kernel
theorem dX9_of_40 : decode cX9_of 40 = .ok (.if_icmp .ne 21, 3) := by decide +kernel
theorem dX9_of_43 : decode cX9_of 43 = .ok (.aload_n 0, 1) := by decide +kernel
theorem dX9_of_44 : decode cX9_of 44 = .ok (.iload_n 1, 1) := by decide +kernel
theorem dX9_of_45 : decode cX9_of 45 = .ok (.iconst 1, 1) := by decide +kernel
theorem dX9_of_46 : decode cX9_of 46 = .ok (.invokevirtual 52, 3) := by decide +kernel
theorem dX9_of_49 : decode cX9_of 49 = .ok (.aload_n 0, 1) := by decide +kernel
theorem dX9_of_50 : decode cX9_of 50 = .ok (.iload_n 1, 1) := by decide +kernel
theorem dX9_of_51 : decode cX9_of 51 = .ok (.iconst 2, 1) := by decide +kernel
theorem dX9_of_52 : decode cX9_of 52 = .ok (.invokevirtual 52, 3) := by decide +kernel
theorem dX9_of_55 : decode cX9_of 55 = .ok (.invokestatic 67, 3) := by decide +kernel
theorem dX9_of_58 : decode cX9_of 58 = .ok (.goto 9, 3) := by decide +kernel
theorem dX9_of_61 : decode cX9_of 61 = .ok (.aload_n 0, 1) := by decide +kernel
theorem dX9_of_62 : decode cX9_of 62 = .ok (.iload_n 1, 1) := by decide +kernel
theorem dX9_of_63 : decode cX9_of 63 = .ok (.iload_n 2, 1) := by decide +kernel
theorem dX9_of_64 : decode cX9_of 64 = .ok (.invokevirtual 52, 3) := by decide +kernel
theorem dX9_of_67 : decode cX9_of 67 = .ok (.ireturn, 1) := by decide +kernel
set_option maxRecDepth 20000 in
theorem ggX9_may_X9_isPlace : GoodIn wsX9_may wsX9_isPlace := goodIn_r _ [4, 5, 6, 3, 7] (by decide +kernel) (by decide +kernel)
set_option maxRecDepth 20000 in
theorem gX9_may_X9_isPlace : GoodIn wsX9_may (va_wsS RX9 76 yX9_isPlace wsX9_isPlace) := goodIn_app (goodIn_of _ (by decide +kernel)) ggX9_may_X9_isPlace
set_option maxRecDepth 20000 in
theorem ggX9_may_X9_in : GoodIn wsX9_may wsX9_in := goodIn_r _ [7] (by decide +kernel) (by decide +kernel)
set_option maxRecDepth 20000 in
theorem gX9_may_X9_in : GoodIn wsX9_may (va_wsS RX9 48 yX9_in wsX9_in) := goodIn_app (goodIn_of _ (by decide +kernel)) ggX9_may_X9_in
theorem dX9_may_0 : decode cX9_may 0 = .ok (.iload_n 0, 1) := by decide +kernel
theorem dX9_may_1 : decode cX9_may 1 = .ok (.tableswitch 53 1 4 #[31, 31, 36, 44], 31) := by decide +kernel
theorem dX9_may_32 : decode cX9_may 32 = .ok (.iload_n 1, 1) := by decide +kernel
theorem dX9_may_33 : decode cX9_may 33 = .ok (.invokestatic 76, 3) := by decide +kernel
theorem dX9_may_36 : decode cX9_may 36 = .ok (.ireturn, 1) := by decide +kernel
theorem dX9_may_37 : decode cX9_may 37 = .ok (.iload_n 1, 1) := by decide +kernel
theorem dX9_may_38 : decode cX9_may 38 = .ok (.iconst 0, 1) := by decide +kernel
theorem dX9_may_39 : decode cX9_may 39 = .ok (.bipush 99, 2) := by decide +kernel
theorem dX9_may_41 : decode cX9_may 41 = .ok (.invokestatic 48, 3) := by decide +kernel
theorem dX9_may_44 : decode cX9_may 44 = .ok (.ireturn, 1) := by decide +kernel
theorem dX9_may_45 : decode cX9_may 45 = .ok (.iload_n 1, 1) := by decide +kernel
theorem dX9_may_46 : decode cX9_may 46 = .ok (.iconst 0, 1) := by decide +kernel
theorem dX9_may_47 : decode cX9_may 47 = .ok (.sipush 999, 3) := by decide +kernel
theorem dX9_may_50 : decode cX9_may 50 = .ok (.invokestatic 48, 3) := by decide +kernel
theorem dX9_may_53 : decode cX9_may 53 = .ok (.ireturn, 1) := by decide +kernel
theorem dX9_may_54 : decode cX9_may 54 = .ok (.iconst 0, 1) := by decide +kernel
theorem dX9_may_55 : decode cX9_may 55 = .ok (.ireturn, 1) := by decide +kernel
set_option maxRecDepth 20000 in
theorem ggX9_set_X9_isBeing : GoodIn wsX9_set wsX9_isBeing := goodIn_r _ [5, 6, 7, 8, 4, 9, 30, 31, 32, 33, 34, 35, 36, 37, 38, 39, 40, 41, 42, 43, 44, 45, 46] (by decide +kernel) (by decide +kernel)
set_option maxRecDepth 20000 in
theorem gX9_set_X9_isBeing : GoodIn wsX9_set (wsV RX9 95 RX9 yX9_isBeing wsX9_isBeing) := goodIn_app (goodIn_of _ (by decide +kernel)) ggX9_set_X9_isBeing
set_option maxRecDepth 20000 in
theorem ggX9_set_X9_may : GoodIn wsX9_set wsX9_may := goodIn_r _ [12, 13, 14, 4, 15, 7, 8, 9] (by decide +kernel) (by decide +kernel)
set_option maxRecDepth 20000 in
theorem gX9_set_X9_may : GoodIn wsX9_set (va_wsS RX9 98 yX9_may wsX9_may) := goodIn_app (goodIn_of _ (by decide +kernel)) ggX9_set_X9_may
set_option maxRecDepth 20000 in
theorem ggX9_set_X9_at : GoodIn wsX9_set wsX9_at := goodIn_r _ [19] (by decide +kernel) (by decide +kernel)
set_option maxRecDepth 20000 in
theorem gX9_set_X9_at : GoodIn wsX9_set (wsV RX9 85 RX9 yX9_at wsX9_at) := goodIn_app (goodIn_of _ (by decide +kernel)) ggX9_set_X9_at
set_option maxRecDepth 20000 in
theorem ggX9_set_X9_puts : GoodIn wsX9_set wsX9_puts := goodIn_r _ [23, 6, 30, 31, 32, 33, 34, 35, 36, 37, 38, 39, 40, 41, 42, 43, 44, 45, 46] (by decide +kernel) (by decide +kernel)
set_option maxRecDepth 20000 in
theorem gX9_set_X9_puts : GoodIn wsX9_set (wsV RX9 79 RX9 yX9_puts wsX9_puts) := goodIn_app (goodIn_of _ (by decide +kernel)) ggX9_set_X9_puts
set_option maxRecDepth 20000 in
theorem ggX9_set_X9_no : GoodIn wsX9_set wsX9_no := goodIn_r _ [27, 28, 29, 30, 31, 32, 33, 34, 35, 36, 37, 38, 39, 40, 41, 42, 43, 44, 45, 46] (by decide +kernel) (by decide +kernel)
set_option maxRecDepth 20000 in
theorem gX9_set_X9_no : GoodIn wsX9_set (wsV RX9 82 RX9 yX9_no wsX9_no) := goodIn_app (goodIn_of _ (by decide +kernel)) ggX9_set_X9_no
theorem dX9_set_0 : decode cX9_set 0 = .ok (.aload_n 0, 1) := by decide +kernel
theorem dX9_set_1 : decode cX9_set 1 = .ok (.iload_n 1, 1) := by decide +kernel
theorem dX9_set_2 : decode cX9_set 2 = .ok (.invokevirtual 95, 3) := by decide +kernel
theorem dX9_set_5 : decode cX9_set 5 = .ok (.ifCond .eq 25, 3) := by decide +kernel
theorem dX9_set_8 : decode cX9_set 8 = .ok (.iload_n 2, 1) := by decide +kernel
theorem dX9_set_9 : decode cX9_set 9 = .ok (.iload_n 3, 1) := by decide +kernel
theorem dX9_set_10 : decode cX9_set 10 = .ok (.invokestatic 98, 3) := by decide +kernel
theorem dX9_set_13 : decode cX9_set 13 = .ok (.ifCond .eq 17, 3) := by decide +kernel
theorem dX9_set_16 : decode cX9_set 16 = .ok (.aload_n 0, 1) := by decide +kernel
theorem dX9_set_17 : decode cX9_set 17 = .ok (.aload_n 0, 1) := by decide +kernel
theorem dX9_set_18 : decode cX9_set 18 = .ok (.iload_n 1, 1) := by decide +kernel
theorem dX9_set_19 : decode cX9_set 19 = .ok (.iload_n 2, 1) := by decide +kernel
theorem dX9_set_20 : decode cX9_set 20 = .ok (.invokevirtual 85, 3) := by decide +kernel
theorem dX9_set_23 : decode cX9_set 23 = .ok (.iload_n 3, 1) := by decide +kernel
theorem dX9_set_24 : decode cX9_set 24 = .ok (.invokevirtual 79, 3) := by decide +kernel
theorem dX9_set_27 : decode cX9_set 27 = .ok (.goto 8, 3) := by decide +kernel
theorem dX9_set_30 : decode cX9_set 30 = .ok (.aload_n 0, 1) := by decide +kernel
theorem dX9_set_31 : decode cX9_set 31 = .ok (.iconst 0, 1) := by decide +kernel
theorem dX9_set_32 : decode cX9_set 32 = .ok (.invokevirtual 82, 3) := by decide +kernel
theorem dX9_set_35 : decode cX9_set 35 = .ok (.ireturn, 1) := by decide +kernel
set_option maxRecDepth 20000 in
theorem ggX9_turn_X9_isBeing : GoodIn wsX9_turn wsX9_isBeing := goodIn_r _ [5, 6, 7, 8, 4, 9, 27, 28, 29, 30, 31, 32, 33, 34, 35, 36, 37, 38, 39, 40, 41, 42, 43] (by decide +kernel) (by decide +kernel)
set_option maxRecDepth 20000 in
theorem gX9_turn_X9_isBeing : GoodIn wsX9_turn (wsV RX9 95 RX9 yX9_isBeing wsX9_isBeing) := goodIn_app (goodIn_of _ (by decide +kernel)) ggX9_turn_X9_isBeing
set_option maxRecDepth 20000 in
theorem ggX9_turn_X9_isKind : GoodIn wsX9_turn wsX9_isKind := goodIn_r _ [12, 7, 8, 4, 9] (by decide +kernel) (by decide +kernel)
set_option maxRecDepth 20000 in
theorem gX9_turn_X9_isKind : GoodIn wsX9_turn (va_wsS RX9 88 yX9_isKind wsX9_isKind) := goodIn_app (goodIn_of _ (by decide +kernel)) ggX9_turn_X9_isKind
set_option maxRecDepth 20000 in
theorem ggX9_turn_X9_at : GoodIn wsX9_turn wsX9_at := goodIn_r _ [16] (by decide +kernel) (by decide +kernel)
set_option maxRecDepth 20000 in
theorem gX9_turn_X9_at : GoodIn wsX9_turn (wsV RX9 85 RX9 yX9_at wsX9_at) := goodIn_app (goodIn_of _ (by decide +kernel)) ggX9_turn_X9_at
set_option maxRecDepth 20000 in
theorem ggX9_turn_X9_puts : GoodIn wsX9_turn wsX9_puts := goodIn_r _ [20, 6, 27, 28, 29, 30, 31, 32, 33, 34, 35, 36, 37, 38, 39, 40, 41, 42, 43] (by decide +kernel) (by decide +kernel)
set_option maxRecDepth 20000 in
theorem gX9_turn_X9_puts : GoodIn wsX9_turn (wsV RX9 79 RX9 yX9_puts wsX9_puts) := goodIn_app (goodIn_of _ (by decide +kernel)) ggX9_turn_X9_puts
set_option maxRecDepth 20000 in
theorem ggX9_turn_X9_no : GoodIn wsX9_turn wsX9_no := goodIn_r _ [24, 25, 26, 27, 28, 29, 30, 31, 32, 33, 34, 35, 36, 37, 38, 39, 40, 41, 42, 43] (by decide +kernel) (by decide +kernel)
set_option maxRecDepth 20000 in
theorem gX9_turn_X9_no : GoodIn wsX9_turn (wsV RX9 82 RX9 yX9_no wsX9_no) := goodIn_app (goodIn_of _ (by decide +kernel)) ggX9_turn_X9_no
theorem dX9_turn_0 : decode cX9_turn 0 = .ok (.aload_n 0, 1) := by decide +kernel
theorem dX9_turn_1 : decode cX9_turn 1 = .ok (.iload_n 1, 1) := by decide +kernel
theorem dX9_turn_2 : decode cX9_turn 2 = .ok (.invokevirtual 95, 3) := by decide +kernel
theorem dX9_turn_5 : decode cX9_turn 5 = .ok (.ifCond .eq 24, 3) := by decide +kernel
theorem dX9_turn_8 : decode cX9_turn 8 = .ok (.iload_n 2, 1) := by decide +kernel
theorem dX9_turn_9 : decode cX9_turn 9 = .ok (.invokestatic 88, 3) := by decide +kernel
theorem dX9_turn_12 : decode cX9_turn 12 = .ok (.ifCond .eq 17, 3) := by decide +kernel
theorem dX9_turn_15 : decode cX9_turn 15 = .ok (.aload_n 0, 1) := by decide +kernel
theorem dX9_turn_16 : decode cX9_turn 16 = .ok (.aload_n 0, 1) := by decide +kernel
theorem dX9_turn_17 : decode cX9_turn 17 = .ok (.iload_n 1, 1) := by decide +kernel
theorem dX9_turn_18 : decode cX9_turn 18 = .ok (.iconst 0, 1) := by decide +kernel
theorem dX9_turn_19 : decode cX9_turn 19 = .ok (.invokevirtual 85, 3) := by decide +kernel
theorem dX9_turn_22 : decode cX9_turn 22 = .ok (.iload_n 2, 1) := by decide +kernel
theorem dX9_turn_23 : decode cX9_turn 23 = .ok (.invokevirtual 79, 3) := by decide +kernel
theorem dX9_turn_26 : decode cX9_turn 26 = .ok (.goto 8, 3) := by decide +kernel
theorem dX9_turn_29 : decode cX9_turn 29 = .ok (.aload_n 0, 1) := by decide +kernel
theorem dX9_turn_30 : decode cX9_turn 30 = .ok (.iconst 0, 1) := by decide +kernel
theorem dX9_turn_31 : decode cX9_turn 31 = .ok (.invokevirtual 82, 3) := by decide +kernel
theorem dX9_turn_34 : decode cX9_turn 34 = .ok (.ireturn, 1) := by decide +kernel
theorem dX9_isUnder_0 : decode cX9_isUnder 0 = .ok (.iload_n 1, 1) := by decide +kernel
theorem dX9_isUnder_1 : decode cX9_isUnder 1 = .ok (.ifCond .eq 28, 3) := by decide +kernel
theorem dX9_isUnder_4 : decode cX9_isUnder 4 = .ok (.iload_n 0, 1) := by decide +kernel
theorem dX9_isUnder_5 : decode cX9_isUnder 5 = .ok (.iload_n 1, 1) := by decide +kernel
theorem dX9_isUnder_6 : decode cX9_isUnder 6 = .ok (.if_icmp .eq 23, 3) := by decide +kernel
theorem dX9_isUnder_9 : decode cX9_isUnder 9 = .ok (.iload_n 0, 1) := by decide +kernel
theorem dX9_isUnder_10 : decode cX9_isUnder 10 = .ok (.iconst 4, 1) := by decide +kernel
theorem dX9_isUnder_11 : decode cX9_isUnder 11 = .ok (.if_icmp .ne 8, 3) := by decide +kernel
theorem dX9_isUnder_14 : decode cX9_isUnder 14 = .ok (.iload_n 1, 1) := by decide +kernel
theorem dX9_isUnder_15 : decode cX9_isUnder 15 = .ok (.iconst 1, 1) := by decide +kernel
theorem dX9_isUnder_16 : decode cX9_isUnder 16 = .ok (.if_icmp .eq 13, 3) := by decide +kernel
theorem dX9_isUnder_19 : decode cX9_isUnder 19 = .ok (.iload_n 0, 1) := by decide +kernel
theorem dX9_isUnder_20 : decode cX9_isUnder 20 = .ok (.iconst 5, 1) := by decide +kernel
theorem dX9_isUnder_21 : decode cX9_isUnder 21 = .ok (.if_icmp .ne 12, 3) := by decide +kernel
theorem dX9_isUnder_24 : decode cX9_isUnder 24 = .ok (.iload_n 1, 1) := by decide +kernel
theorem dX9_isUnder_25 : decode cX9_isUnder 25 = .ok (.iconst 2, 1) := by decide +kernel
theorem dX9_isUnder_26 : decode cX9_isUnder 26 = .ok (.if_icmp .ne 7, 3) := by decide +kernel
theorem dX9_isUnder_29 : decode cX9_isUnder 29 = .ok (.iconst 1, 1) := by decide +kernel
theorem dX9_isUnder_30 : decode cX9_isUnder 30 = .ok (.goto 4, 3) := by decide +kernel
theorem dX9_isUnder_33 : decode cX9_isUnder 33 = .ok (.iconst 0, 1) := by decide +kernel
theorem dX9_isUnder_34 : decode cX9_isUnder 34 = .ok (.ireturn, 1) := by decide +kernel
set_option maxRecDepth 20000 in
theorem ggX9_as_X9_isBeing : GoodIn wsX9_as wsX9_isBeing := goodIn_r _ [5, 6, 7, 8, 4, 9, 26, 27, 28, 29, 30, 31, 32, 33, 34, 35, 36, 37, 38, 39, 40, 41, 42] (by decide +kernel) (by decide +kernel)
set_option maxRecDepth 20000 in
theorem gX9_as_X9_isBeing : GoodIn wsX9_as (wsV RX9 95 RX9 yX9_isBeing wsX9_isBeing) := goodIn_app (goodIn_of _ (by decide +kernel)) ggX9_as_X9_isBeing
set_option maxRecDepth 20000 in
theorem ggX9_as_X9_isKind : GoodIn wsX9_as wsX9_isKind := goodIn_r _ [12, 7, 8, 4, 9] (by decide +kernel) (by decide +kernel)
set_option maxRecDepth 20000 in
theorem gX9_as_X9_isKind : GoodIn wsX9_as (va_wsS RX9 88 yX9_isKind wsX9_isKind) := goodIn_app (goodIn_of _ (by decide +kernel)) ggX9_as_X9_isKind
set_option maxRecDepth 20000 in
theorem ggX9_as_X9_no : GoodIn wsX9_as wsX9_no := goodIn_r _ [16, 17, 18, 26, 27, 28, 29, 30, 31, 32, 33, 34, 35, 36, 37, 38, 39, 40, 41, 42] (by decide +kernel) (by decide +kernel)
set_option maxRecDepth 20000 in
theorem gX9_as_X9_no : GoodIn wsX9_as (wsV RX9 82 RX9 yX9_no wsX9_no) := goodIn_app (goodIn_of _ (by decide +kernel)) ggX9_as_X9_no
set_option maxRecDepth 20000 in
theorem ggX9_as_X9_is : GoodIn wsX9_as wsX9_is := goodIn_r _ [22, 6, 26, 27, 28, 29, 30, 31, 32, 33, 34, 35, 36, 37, 38, 39, 40, 41, 42] (by decide +kernel) (by decide +kernel)
set_option maxRecDepth 20000 in
theorem gX9_as_X9_is : GoodIn wsX9_as (wsV RX9 52 RX9 yX9_is wsX9_is) := goodIn_app (goodIn_of _ (by decide +kernel)) ggX9_as_X9_is
set_option maxRecDepth 20000 in
theorem ggX9_as_X9_isUnder : GoodIn wsX9_as wsX9_isUnder := goodIn_r _ [25] (by decide +kernel) (by decide +kernel)
set_option maxRecDepth 20000 in
theorem gX9_as_X9_isUnder : GoodIn wsX9_as (va_wsS RX9 102 yX9_isUnder wsX9_isUnder) := goodIn_app (goodIn_of _ (by decide +kernel)) ggX9_as_X9_isUnder
theorem dX9_as_0 : decode cX9_as 0 = .ok (.aload_n 0, 1) := by decide +kernel
theorem dX9_as_1 : decode cX9_as 1 = .ok (.iload_n 1, 1) := by decide +kernel
theorem dX9_as_2 : decode cX9_as 2 = .ok (.invokevirtual 95, 3) := by decide +kernel
theorem dX9_as_5 : decode cX9_as 5 = .ok (.ifCond .eq 10, 3) := by decide +kernel
theorem dX9_as_8 : decode cX9_as 8 = .ok (.iload_n 2, 1) := by decide +kernel
theorem dX9_as_9 : decode cX9_as 9 = .ok (.invokestatic 88, 3) := by decide +kernel
theorem dX9_as_12 : decode cX9_as 12 = .ok (.ifCond .ne 9, 3) := by decide +kernel
theorem dX9_as_15 : decode cX9_as 15 = .ok (.aload_n 0, 1) := by decide +kernel
theorem dX9_as_16 : decode cX9_as 16 = .ok (.iconst 0, 1) := by decide +kernel
theorem dX9_as_17 : decode cX9_as 17 = .ok (.invokevirtual 82, 3) := by decide +kernel
theorem dX9_as_20 : decode cX9_as 20 = .ok (.ireturn, 1) := by decide +kernel
theorem dX9_as_21 : decode cX9_as 21 = .ok (.aload_n 0, 1) := by decide +kernel
theorem dX9_as_22 : decode cX9_as 22 = .ok (.iload_n 1, 1) := by decide +kernel
theorem dX9_as_23 : decode cX9_as 23 = .ok (.iconst 0, 1) := by decide +kernel
theorem dX9_as_24 : decode cX9_as 24 = .ok (.invokevirtual 52, 3) := by decide +kernel
theorem dX9_as_27 : decode cX9_as 27 = .ok (.iload_n 2, 1) := by decide +kernel
theorem dX9_as_28 : decode cX9_as 28 = .ok (.invokestatic 102, 3) := by decide +kernel
theorem dX9_as_31 : decode cX9_as 31 = .ok (.ifCond .eq 12, 3) := by decide +kernel
theorem dX9_as_34 : decode cX9_as 34 = .ok (.aload_n 0, 1) := by decide +kernel
theorem dX9_as_35 : decode cX9_as 35 = .ok (.iload_n 1, 1) := by decide +kernel
theorem dX9_as_36 : decode cX9_as 36 = .ok (.iconst 3, 1) := by decide +kernel
theorem dX9_as_37 : decode cX9_as 37 = .ok (.invokevirtual 52, 3) := by decide +kernel
theorem dX9_as_40 : decode cX9_as 40 = .ok (.goto 8, 3) := by decide +kernel
theorem dX9_as_43 : decode cX9_as 43 = .ok (.aload_n 0, 1) := by decide +kernel
theorem dX9_as_44 : decode cX9_as 44 = .ok (.iconst 2, 1) := by decide +kernel
theorem dX9_as_45 : decode cX9_as 45 = .ok (.invokevirtual 82, 3) := by decide +kernel
theorem dX9_as_48 : decode cX9_as 48 = .ok (.ireturn, 1) := by decide +kernel
set_option maxRecDepth 20000 in
theorem ggX9_eats_X9_at : GoodIn wsX9_eats wsX9_at := goodIn_r _ [6] (by decide +kernel) (by decide +kernel)
set_option maxRecDepth 20000 in
theorem gX9_eats_X9_at : GoodIn wsX9_eats (wsV RX9 85 RX9 yX9_at wsX9_at) := goodIn_app (goodIn_of _ (by decide +kernel)) ggX9_eats_X9_at
theorem dX9_eats_0 : decode cX9_eats 0 = .ok (.aload_n 0, 1) := by decide +kernel
theorem dX9_eats_1 : decode cX9_eats 1 = .ok (.getfield 9, 3) := by decide +kernel
theorem dX9_eats_4 : decode cX9_eats 4 = .ok (.aload_n 0, 1) := by decide +kernel
theorem dX9_eats_5 : decode cX9_eats 5 = .ok (.iload_n 1, 1) := by decide +kernel
theorem dX9_eats_6 : decode cX9_eats 6 = .ok (.iconst 3, 1) := by decide +kernel
theorem dX9_eats_7 : decode cX9_eats 7 = .ok (.invokevirtual 85, 3) := by decide +kernel
theorem dX9_eats_10 : decode cX9_eats 10 = .ok (.iload_n 2, 1) := by decide +kernel
theorem dX9_eats_11 : decode cX9_eats 11 = .ok (.iastore, 1) := by decide +kernel
theorem dX9_eats_12 : decode cX9_eats 12 = .ok (.aload_n 0, 1) := by decide +kernel
theorem dX9_eats_13 : decode cX9_eats 13 = .ok (.getfield 9, 3) := by decide +kernel
theorem dX9_eats_16 : decode cX9_eats 16 = .ok (.aload_n 0, 1) := by decide +kernel
theorem dX9_eats_17 : decode cX9_eats 17 = .ok (.iload_n 1, 1) := by decide +kernel
theorem dX9_eats_18 : decode cX9_eats 18 = .ok (.iconst 4, 1) := by decide +kernel
theorem dX9_eats_19 : decode cX9_eats 19 = .ok (.invokevirtual 85, 3) := by decide +kernel
theorem dX9_eats_22 : decode cX9_eats 22 = .ok (.iconst 0, 1) := by decide +kernel
theorem dX9_eats_23 : decode cX9_eats 23 = .ok (.iastore, 1) := by decide +kernel
theorem dX9_eats_24 : decode cX9_eats 24 = .ok (.return_, 1) := by decide +kernel
set_option maxRecDepth 20000 in
theorem ggX9_eat_X9_isBeing : GoodIn wsX9_eat wsX9_isBeing := goodIn_r _ [5, 6, 7, 8, 4, 9, 39, 40, 41, 42, 43, 44, 45, 46, 47, 48, 49, 50, 51, 52, 53, 54, 55] (by decide +kernel) (by decide +kernel)
set_option maxRecDepth 20000 in
theorem gX9_eat_X9_isBeing : GoodIn wsX9_eat (wsV RX9 95 RX9 yX9_isBeing wsX9_isBeing) := goodIn_app (goodIn_of _ (by decide +kernel)) ggX9_eat_X9_isBeing
set_option maxRecDepth 20000 in
theorem ggX9_eat_X9_in : GoodIn wsX9_eat wsX9_in := goodIn_r _ [9] (by decide +kernel) (by decide +kernel)
set_option maxRecDepth 20000 in
theorem gX9_eat_X9_in : GoodIn wsX9_eat (va_wsS RX9 48 yX9_in wsX9_in) := goodIn_app (goodIn_of _ (by decide +kernel)) ggX9_eat_X9_in
set_option maxRecDepth 20000 in
theorem ggX9_eat_X9_no : GoodIn wsX9_eat wsX9_no := goodIn_r _ [13, 14, 15, 39, 40, 41, 42, 43, 44, 45, 46, 47, 48, 49, 50, 51, 52, 53, 54, 55] (by decide +kernel) (by decide +kernel)
set_option maxRecDepth 20000 in
theorem gX9_eat_X9_no : GoodIn wsX9_eat (wsV RX9 82 RX9 yX9_no wsX9_no) := goodIn_app (goodIn_of _ (by decide +kernel)) ggX9_eat_X9_no
set_option maxRecDepth 20000 in
theorem ggX9_eat_X9_eats : GoodIn wsX9_eat wsX9_eats := goodIn_r _ [19, 6, 20, 21, 22, 4, 23, 39, 40, 41, 42, 43, 44, 45, 46, 47, 48, 49, 50, 51, 52, 53, 54, 55] (by decide +kernel) (by decide +kernel)
set_option maxRecDepth 20000 in
theorem gX9_eat_X9_eats : GoodIn wsX9_eat (wsV RX9 105 RX9 yX9_eats wsX9_eats) := goodIn_app (goodIn_of _ (by decide +kernel)) ggX9_eat_X9_eats
set_option maxRecDepth 20000 in
theorem ggX9_eat_X9_shines : GoodIn wsX9_eat wsX9_shines := goodIn_r _ [27, 28, 29, 30, 4, 31, 6, 32, 33, 34, 35, 36, 37, 38, 39, 40, 41, 42, 43, 44, 45, 46, 47, 48, 49, 50, 51, 52, 53, 54, 55] (by decide +kernel) (by decide +kernel)
set_option maxRecDepth 20000 in
theorem gX9_eat_X9_shines : GoodIn wsX9_eat (wsV RX9 63 RX9 yX9_shines wsX9_shines) := goodIn_app (goodIn_of _ (by decide +kernel)) ggX9_eat_X9_shines
theorem dX9_eat_0 : decode cX9_eat 0 = .ok (.aload_n 0, 1) := by decide +kernel
theorem dX9_eat_1 : decode cX9_eat 1 = .ok (.iload_n 1, 1) := by decide +kernel
theorem dX9_eat_2 : decode cX9_eat 2 = .ok (.invokevirtual 95, 3) := by decide +kernel
theorem dX9_eat_5 : decode cX9_eat 5 = .ok (.ifCond .eq 13, 3) := by decide +kernel
theorem dX9_eat_8 : decode cX9_eat 8 = .ok (.iload_n 2, 1) := by decide +kernel
theorem dX9_eat_9 : decode cX9_eat 9 = .ok (.iconst 0, 1) := by decide +kernel
theorem dX9_eat_10 : decode cX9_eat 10 = .ok (.bipush 99, 2) := by decide +kernel
theorem dX9_eat_12 : decode cX9_eat 12 = .ok (.invokestatic 48, 3) := by decide +kernel
theorem dX9_eat_15 : decode cX9_eat 15 = .ok (.ifCond .ne 9, 3) := by decide +kernel
theorem dX9_eat_18 : decode cX9_eat 18 = .ok (.aload_n 0, 1) := by decide +kernel
theorem dX9_eat_19 : decode cX9_eat 19 = .ok (.iconst 0, 1) := by decide +kernel
theorem dX9_eat_20 : decode cX9_eat 20 = .ok (.invokevirtual 82, 3) := by decide +kernel
theorem dX9_eat_23 : decode cX9_eat 23 = .ok (.ireturn, 1) := by decide +kernel
theorem dX9_eat_24 : decode cX9_eat 24 = .ok (.aload_n 0, 1) := by decide +kernel
theorem dX9_eat_25 : decode cX9_eat 25 = .ok (.iload_n 1, 1) := by decide +kernel
theorem dX9_eat_26 : decode cX9_eat 26 = .ok (.iload_n 2, 1) := by decide +kernel
theorem dX9_eat_27 : decode cX9_eat 27 = .ok (.invokevirtual 105, 3) := by decide +kernel
theorem dX9_eat_30 : decode cX9_eat 30 = .ok (.aload_n 0, 1) := by decide +kernel
theorem dX9_eat_31 : decode cX9_eat 31 = .ok (.iload_n 1, 1) := by decide +kernel
theorem dX9_eat_32 : decode cX9_eat 32 = .ok (.invokevirtual 63, 3) := by decide +kernel
theorem dX9_eat_35 : decode cX9_eat 35 = .ok (.ireturn, 1) := by decide +kernel
set_option maxRecDepth 20000 in
theorem ggX9_gives_X9_isBeing : GoodIn wsX9_gives wsX9_isBeing := goodIn_r _ [5, 6, 7, 8, 4, 9, 41, 42, 43, 44, 45, 46, 47, 48, 49, 50, 51, 52, 53, 54, 55, 56, 57] (by decide +kernel) (by decide +kernel)
set_option maxRecDepth 20000 in
theorem gX9_gives_X9_isBeing : GoodIn wsX9_gives (wsV RX9 95 RX9 yX9_isBeing wsX9_isBeing) := goodIn_app (goodIn_of _ (by decide +kernel)) ggX9_gives_X9_isBeing
set_option maxRecDepth 20000 in
theorem ggX9_gives_X9_isPlace : GoodIn wsX9_gives wsX9_isPlace := goodIn_r _ [12, 7, 8, 4, 9] (by decide +kernel) (by decide +kernel)
set_option maxRecDepth 20000 in
theorem gX9_gives_X9_isPlace : GoodIn wsX9_gives (va_wsS RX9 76 yX9_isPlace wsX9_isPlace) := goodIn_app (goodIn_of _ (by decide +kernel)) ggX9_gives_X9_isPlace
set_option maxRecDepth 20000 in
theorem ggX9_gives_X9_givesTo : GoodIn wsX9_gives wsX9_givesTo := goodIn_r _ [16, 17, 18, 19, 4, 20, 21, 22, 23, 24, 6, 25, 26, 27, 28, 29, 30, 31, 32, 33, 34, 41, 42, 43, 44, 45, 46, 47, 48, 49, 50, 51, 52, 53, 54, 55, 56, 57] (by decide +kernel) (by decide +kernel)
set_option maxRecDepth 20000 in
theorem gX9_gives_X9_givesTo : GoodIn wsX9_gives (wsV RX9 70 RX9 yX9_givesTo wsX9_givesTo) := goodIn_app (goodIn_of _ (by decide +kernel)) ggX9_gives_X9_givesTo
set_option maxRecDepth 20000 in
theorem ggX9_gives_X9_no : GoodIn wsX9_gives wsX9_no := goodIn_r _ [38, 39, 40, 41, 42, 43, 44, 45, 46, 47, 48, 49, 50, 51, 52, 53, 54, 55, 56, 57] (by decide +kernel) (by decide +kernel)
set_option maxRecDepth 20000 in
theorem gX9_gives_X9_no : GoodIn wsX9_gives (wsV RX9 82 RX9 yX9_no wsX9_no) := goodIn_app (goodIn_of _ (by decide +kernel)) ggX9_gives_X9_no
theorem dX9_gives_0 : decode cX9_gives 0 = .ok (.aload_n 0, 1) := by decide +kernel
theorem dX9_gives_1 : decode cX9_gives 1 = .ok (.iload_n 1, 1) := by decide +kernel
theorem dX9_gives_2 : decode cX9_gives 2 = .ok (.invokevirtual 95, 3) := by decide +kernel
theorem dX9_gives_5 : decode cX9_gives 5 = .ok (.ifCond .eq 19, 3) := by decide +kernel
theorem dX9_gives_8 : decode cX9_gives 8 = .ok (.iload_n 2, 1) := by decide +kernel
theorem dX9_gives_9 : decode cX9_gives 9 = .ok (.invokestatic 76, 3) := by decide +kernel
theorem dX9_gives_12 : decode cX9_gives 12 = .ok (.ifCond .eq 12, 3) := by decide +kernel
theorem dX9_gives_15 : decode cX9_gives 15 = .ok (.aload_n 0, 1) := by decide +kernel
theorem dX9_gives_16 : decode cX9_gives 16 = .ok (.iload_n 1, 1) := by decide +kernel
theorem dX9_gives_17 : decode cX9_gives 17 = .ok (.iload_n 2, 1) := by decide +kernel
theorem dX9_gives_18 : decode cX9_gives 18 = .ok (.invokevirtual 70, 3) := by decide +kernel
theorem dX9_gives_21 : decode cX9_gives 21 = .ok (.goto 8, 3) := by decide +kernel
theorem dX9_gives_24 : decode cX9_gives 24 = .ok (.aload_n 0, 1) := by decide +kernel
theorem dX9_gives_25 : decode cX9_gives 25 = .ok (.iconst 0, 1) := by decide +kernel
theorem dX9_gives_26 : decode cX9_gives 26 = .ok (.invokevirtual 82, 3) := by decide +kernel
theorem dX9_gives_29 : decode cX9_gives 29 = .ok (.ireturn, 1) := by decide +kernel
set_option maxRecDepth 20000 in
theorem ggX9_seen_X9_isPlace : GoodIn wsX9_seen wsX9_isPlace := goodIn_r _ [5, 6, 7, 4, 8] (by decide +kernel) (by decide +kernel)
set_option maxRecDepth 20000 in
theorem gX9_seen_X9_isPlace : GoodIn wsX9_seen (va_wsS RX9 76 yX9_isPlace wsX9_isPlace) := goodIn_app (goodIn_of _ (by decide +kernel)) ggX9_seen_X9_isPlace
set_option maxRecDepth 20000 in
theorem ggX9_seen_X9_no : GoodIn wsX9_seen wsX9_no := goodIn_r _ [12, 13, 14, 37, 38, 39, 40, 41, 42, 43, 44, 45, 46, 47, 48, 49, 50, 51, 52, 53] (by decide +kernel) (by decide +kernel)
set_option maxRecDepth 20000 in
theorem gX9_seen_X9_no : GoodIn wsX9_seen (wsV RX9 82 RX9 yX9_no wsX9_no) := goodIn_app (goodIn_of _ (by decide +kernel)) ggX9_seen_X9_no
set_option maxRecDepth 20000 in
theorem ggX9_seen_X9_givesTo : GoodIn wsX9_seen wsX9_givesTo := goodIn_r _ [18, 19, 20, 21, 4, 22, 23, 24, 25, 26, 1, 27, 28, 29, 30, 31, 32, 33, 34, 35, 36, 37, 38, 39, 40, 41, 42, 43, 44, 45, 46, 47, 48, 49, 50, 51, 52, 53] (by decide +kernel) (by decide +kernel)
set_option maxRecDepth 20000 in
theorem gX9_seen_X9_givesTo : GoodIn wsX9_seen (wsV RX9 70 RX9 yX9_givesTo wsX9_givesTo) := goodIn_app (goodIn_of _ (by decide +kernel)) ggX9_seen_X9_givesTo
theorem dX9_seen_0 : decode cX9_seen 0 = .ok (.iload_n 1, 1) := by decide +kernel
theorem dX9_seen_1 : decode cX9_seen 1 = .ok (.invokestatic 76, 3) := by decide +kernel
theorem dX9_seen_4 : decode cX9_seen 4 = .ok (.ifCond .ne 9, 3) := by decide +kernel
theorem dX9_seen_7 : decode cX9_seen 7 = .ok (.aload_n 0, 1) := by decide +kernel
theorem dX9_seen_8 : decode cX9_seen 8 = .ok (.iconst 0, 1) := by decide +kernel
theorem dX9_seen_9 : decode cX9_seen 9 = .ok (.invokevirtual 82, 3) := by decide +kernel
theorem dX9_seen_12 : decode cX9_seen 12 = .ok (.ireturn, 1) := by decide +kernel
theorem dX9_seen_13 : decode cX9_seen 13 = .ok (.iconst 0, 1) := by decide +kernel
theorem dX9_seen_14 : decode cX9_seen 14 = .ok (.istore_n 2, 1) := by decide +kernel
theorem dX9_seen_15 : decode cX9_seen 15 = .ok (.iconst 0, 1) := by decide +kernel
theorem dX9_seen_16 : decode cX9_seen 16 = .ok (.istore_n 3, 1) := by decide +kernel
theorem dX9_seen_17 : decode cX9_seen 17 = .ok (.iload_n 3, 1) := by decide +kernel
theorem dX9_seen_18 : decode cX9_seen 18 = .ok (.aload_n 0, 1) := by decide +kernel
theorem dX9_seen_19 : decode cX9_seen 19 = .ok (.getfield 9, 3) := by decide +kernel
theorem dX9_seen_22 : decode cX9_seen 22 = .ok (.iconst 1, 1) := by decide +kernel
theorem dX9_seen_23 : decode cX9_seen 23 = .ok (.iaload, 1) := by decide +kernel
theorem dX9_seen_24 : decode cX9_seen 24 = .ok (.if_icmp .ge 29, 3) := by decide +kernel
theorem dX9_seen_27 : decode cX9_seen 27 = .ok (.iload_n 2, 1) := by decide +kernel
theorem dX9_seen_28 : decode cX9_seen 28 = .ok (.aload_n 0, 1) := by decide +kernel
theorem dX9_seen_29 : decode cX9_seen 29 = .ok (.iload_n 3, 1) := by decide +kernel
theorem dX9_seen_30 : decode cX9_seen 30 = .ok (.iload_n 1, 1) := by decide +kernel
theorem dX9_seen_31 : decode cX9_seen 31 = .ok (.invokevirtual 70, 3) := by decide +kernel
theorem dX9_seen_34 : decode cX9_seen 34 = .ok (.iconst 1, 1) := by decide +kernel
theorem dX9_seen_35 : decode cX9_seen 35 = .ok (.if_icmp .lt 9, 3) := by decide +kernel
theorem dX9_seen_38 : decode cX9_seen 38 = .ok (.iconst 1, 1) := by decide +kernel
theorem dX9_seen_39 : decode cX9_seen 39 = .ok (.iload_n 3, 1) := by decide +kernel
theorem dX9_seen_40 : decode cX9_seen 40 = .ok (.ishl, 1) := by decide +kernel
theorem dX9_seen_41 : decode cX9_seen 41 = .ok (.goto 4, 3) := by decide +kernel
theorem dX9_seen_44 : decode cX9_seen 44 = .ok (.iconst 0, 1) := by decide +kernel
theorem dX9_seen_45 : decode cX9_seen 45 = .ok (.ior, 1) := by decide +kernel
theorem dX9_seen_46 : decode cX9_seen 46 = .ok (.istore_n 2, 1) := by decide +kernel
theorem dX9_seen_47 : decode cX9_seen 47 = .ok (.iinc 3 1, 3) := by decide +kernel
theorem dX9_seen_50 : decode cX9_seen 50 = .ok (.goto (-33), 3) := by decide +kernel
theorem dX9_seen_53 : decode cX9_seen 53 = .ok (.iload_n 2, 1) := by decide +kernel
theorem dX9_seen_54 : decode cX9_seen 54 = .ok (.ireturn, 1) := by decide +kernel
theorem dX9_addsTask_0 : decode cX9_addsTask 0 = .ok (.bipush 69, 2) := by decide +kernel
theorem dX9_addsTask_2 : decode cX9_addsTask 2 = .ok (.iconst 3, 1) := by decide +kernel
theorem dX9_addsTask_3 : decode cX9_addsTask 3 = .ok (.aload_n 0, 1) := by decide +kernel
theorem dX9_addsTask_4 : decode cX9_addsTask 4 = .ok (.getfield 9, 3) := by decide +kernel
theorem dX9_addsTask_7 : decode cX9_addsTask 7 = .ok (.iconst 2, 1) := by decide +kernel
theorem dX9_addsTask_8 : decode cX9_addsTask 8 = .ok (.iaload, 1) := by decide +kernel
theorem dX9_addsTask_9 : decode cX9_addsTask 9 = .ok (.imul, 1) := by decide +kernel
theorem dX9_addsTask_10 : decode cX9_addsTask 10 = .ok (.iadd, 1) := by decide +kernel
theorem dX9_addsTask_11 : decode cX9_addsTask 11 = .ok (.istore 4, 2) := by decide +kernel
theorem dX9_addsTask_13 : decode cX9_addsTask 13 = .ok (.aload_n 0, 1) := by decide +kernel
theorem dX9_addsTask_14 : decode cX9_addsTask 14 = .ok (.getfield 9, 3) := by decide +kernel
theorem dX9_addsTask_17 : decode cX9_addsTask 17 = .ok (.iload 4, 2) := by decide +kernel
theorem dX9_addsTask_19 : decode cX9_addsTask 19 = .ok (.iconst 0, 1) := by decide +kernel
theorem dX9_addsTask_20 : decode cX9_addsTask 20 = .ok (.iadd, 1) := by decide +kernel
theorem dX9_addsTask_21 : decode cX9_addsTask 21 = .ok (.iload_n 1, 1) := by decide +kernel
theorem dX9_addsTask_22 : decode cX9_addsTask 22 = .ok (.iastore, 1) := by decide +kernel
theorem dX9_addsTask_23 : decode cX9_addsTask 23 = .ok (.aload_n 0, 1) := by decide +kernel
theorem dX9_addsTask_24 : decode cX9_addsTask 24 = .ok (.getfield 9, 3) := by decide +kernel
theorem dX9_addsTask_27 : decode cX9_addsTask 27 = .ok (.iload 4, 2) := by decide +kernel
theorem dX9_addsTask_29 : decode cX9_addsTask 29 = .ok (.iconst 1, 1) := by decide +kernel
theorem dX9_addsTask_30 : decode cX9_addsTask 30 = .ok (.iadd, 1) := by decide +kernel
theorem dX9_addsTask_31 : decode cX9_addsTask 31 = .ok (.iload_n 2, 1) := by decide +kernel
theorem dX9_addsTask_32 : decode cX9_addsTask 32 = .ok (.iastore, 1) := by decide +kernel
theorem dX9_addsTask_33 : decode cX9_addsTask 33 = .ok (.aload_n 0, 1) := by decide +kernel
theorem dX9_addsTask_34 : decode cX9_addsTask 34 = .ok (.getfield 9, 3) := by decide +kernel
theorem dX9_addsTask_37 : decode cX9_addsTask 37 = .ok (.iload 4, 2) := by decide +kernel
theorem dX9_addsTask_39 : decode cX9_addsTask 39 = .ok (.iconst 2, 1) := by decide +kernel
theorem dX9_addsTask_40 : decode cX9_addsTask 40 = .ok (.iadd, 1) := by decide +kernel
theorem dX9_addsTask_41 : decode cX9_addsTask 41 = .ok (.iload_n 3, 1) := by decide +kernel
theorem dX9_addsTask_42 : decode cX9_addsTask 42 = .ok (.iastore, 1) := by decide +kernel
theorem dX9_addsTask_43 : decode cX9_addsTask 43 = .ok (.aload_n 0, 1) := by decide +kernel
theorem dX9_addsTask_44 : decode cX9_addsTask 44 = .ok (.getfield 9, 3) := by decide +kernel
theorem dX9_addsTask_47 : decode cX9_addsTask 47 = .ok (.iconst 2, 1) := by decide +kernel
theorem dX9_addsTask_48 : decode cX9_addsTask 48 = .ok (.dup2, 1) := by decide +kernel
theorem dX9_addsTask_49 : decode cX9_addsTask 49 = .ok (.iaload, 1) := by decide +kernel
theorem dX9_addsTask_50 : decode cX9_addsTask 50 = .ok (.iconst 1, 1) := by decide +kernel
theorem dX9_addsTask_51 : decode cX9_addsTask 51 = .ok (.iadd, 1) := by decide +kernel
theorem dX9_addsTask_52 : decode cX9_addsTask 52 = .ok (.iastore, 1) := by decide +kernel
theorem dX9_addsTask_53 : decode cX9_addsTask 53 = .ok (.return_, 1) := by decide +kernel
set_option maxRecDepth 20000 in
theorem ggX9_task_X9_isPlace : GoodIn wsX9_task wsX9_isPlace := goodIn_r _ [5, 6, 7, 4, 8] (by decide +kernel) (by decide +kernel)
set_option maxRecDepth 20000 in
theorem gX9_task_X9_isPlace : GoodIn wsX9_task (va_wsS RX9 76 yX9_isPlace wsX9_isPlace) := goodIn_app (goodIn_of _ (by decide +kernel)) ggX9_task_X9_isPlace
set_option maxRecDepth 20000 in
theorem ggX9_task_X9_in : GoodIn wsX9_task wsX9_in := goodIn_r _ [8] (by decide +kernel) (by decide +kernel)
set_option maxRecDepth 20000 in
theorem gX9_task_X9_in : GoodIn wsX9_task (va_wsS RX9 48 yX9_in wsX9_in) := goodIn_app (goodIn_of _ (by decide +kernel)) ggX9_task_X9_in
set_option maxRecDepth 20000 in
theorem ggX9_task_X9_no : GoodIn wsX9_task wsX9_no := goodIn_r _ [12, 13, 14, 19, 20, 21, 22, 23, 24, 25, 26, 27, 28, 29, 30, 31, 32, 33, 34, 35] (by decide +kernel) (by decide +kernel)
set_option maxRecDepth 20000 in
theorem gX9_task_X9_no : GoodIn wsX9_task (wsV RX9 82 RX9 yX9_no wsX9_no) := goodIn_app (goodIn_of _ (by decide +kernel)) ggX9_task_X9_no
set_option maxRecDepth 20000 in
theorem ggX9_task_X9_addsTask : GoodIn wsX9_task wsX9_addsTask := goodIn_r _ [18, 1, 19, 20, 21, 22, 23, 24, 25, 26, 27, 28, 29, 30, 31, 32, 33, 34, 35] (by decide +kernel) (by decide +kernel)
set_option maxRecDepth 20000 in
theorem gX9_task_X9_addsTask : GoodIn wsX9_task (wsV RX9 109 RX9 yX9_addsTask wsX9_addsTask) := goodIn_app (goodIn_of _ (by decide +kernel)) ggX9_task_X9_addsTask
theorem dX9_task_0 : decode cX9_task 0 = .ok (.iload_n 1, 1) := by decide +kernel
theorem dX9_task_1 : decode cX9_task 1 = .ok (.invokestatic 76, 3) := by decide +kernel
theorem dX9_task_4 : decode cX9_task 4 = .ok (.ifCond .eq 23, 3) := by decide +kernel
theorem dX9_task_7 : decode cX9_task 7 = .ok (.iload_n 2, 1) := by decide +kernel
theorem dX9_task_8 : decode cX9_task 8 = .ok (.iconst 0, 1) := by decide +kernel
theorem dX9_task_9 : decode cX9_task 9 = .ok (.bipush 99, 2) := by decide +kernel
theorem dX9_task_11 : decode cX9_task 11 = .ok (.invokestatic 48, 3) := by decide +kernel
theorem dX9_task_14 : decode cX9_task 14 = .ok (.ifCond .eq 13, 3) := by decide +kernel
theorem dX9_task_17 : decode cX9_task 17 = .ok (.iload_n 3, 1) := by decide +kernel
theorem dX9_task_18 : decode cX9_task 18 = .ok (.iconst 1, 1) := by decide +kernel
theorem dX9_task_19 : decode cX9_task 19 = .ok (.bipush 99, 2) := by decide +kernel
theorem dX9_task_21 : decode cX9_task 21 = .ok (.invokestatic 48, 3) := by decide +kernel
theorem dX9_task_24 : decode cX9_task 24 = .ok (.ifCond .ne 9, 3) := by decide +kernel
theorem dX9_task_27 : decode cX9_task 27 = .ok (.aload_n 0, 1) := by decide +kernel
theorem dX9_task_28 : decode cX9_task 28 = .ok (.iconst 0, 1) := by decide +kernel
theorem dX9_task_29 : decode cX9_task 29 = .ok (.invokevirtual 82, 3) := by decide +kernel
theorem dX9_task_32 : decode cX9_task 32 = .ok (.ireturn, 1) := by decide +kernel
theorem dX9_task_33 : decode cX9_task 33 = .ok (.aload_n 0, 1) := by decide +kernel
theorem dX9_task_34 : decode cX9_task 34 = .ok (.getfield 9, 3) := by decide +kernel
theorem dX9_task_37 : decode cX9_task 37 = .ok (.iconst 2, 1) := by decide +kernel
theorem dX9_task_38 : decode cX9_task 38 = .ok (.iaload, 1) := by decide +kernel
theorem dX9_task_39 : decode cX9_task 39 = .ok (.bipush 8, 2) := by decide +kernel
theorem dX9_task_41 : decode cX9_task 41 = .ok (.if_icmp .ne 9, 3) := by decide +kernel
theorem dX9_task_44 : decode cX9_task 44 = .ok (.aload_n 0, 1) := by decide +kernel
theorem dX9_task_45 : decode cX9_task 45 = .ok (.iconst 1, 1) := by decide +kernel
theorem dX9_task_46 : decode cX9_task 46 = .ok (.invokevirtual 82, 3) := by decide +kernel
theorem dX9_task_49 : decode cX9_task 49 = .ok (.ireturn, 1) := by decide +kernel
theorem dX9_task_50 : decode cX9_task 50 = .ok (.aload_n 0, 1) := by decide +kernel
theorem dX9_task_51 : decode cX9_task 51 = .ok (.iload_n 1, 1) := by decide +kernel
theorem dX9_task_52 : decode cX9_task 52 = .ok (.iload_n 2, 1) := by decide +kernel
theorem dX9_task_53 : decode cX9_task 53 = .ok (.iload_n 3, 1) := by decide +kernel
theorem dX9_task_54 : decode cX9_task 54 = .ok (.invokevirtual 109, 3) := by decide +kernel
theorem dX9_task_57 : decode cX9_task 57 = .ok (.aload_n 0, 1) := by decide +kernel
theorem dX9_task_58 : decode cX9_task 58 = .ok (.getfield 9, 3) := by decide +kernel
theorem dX9_task_61 : decode cX9_task 61 = .ok (.iconst 2, 1) := by decide +kernel
theorem dX9_task_62 : decode cX9_task 62 = .ok (.iaload, 1) := by decide +kernel
theorem dX9_task_63 : decode cX9_task 63 = .ok (.iconst 1, 1) := by decide +kernel
theorem dX9_task_64 : decode cX9_task 64 = .ok (.isub, 1) := by decide +kernel
theorem dX9_task_65 : decode cX9_task 65 = .ok (.ireturn, 1) := by decide +kernel
set_option maxRecDepth 20000 in
theorem ggX9_isDark_X9_taskIs : GoodIn wsX9_isDark wsX9_taskIs := goodIn_r _ [5, 6, 33, 34, 35, 36, 37, 38, 39, 40, 41, 42, 43, 44, 45, 46, 47, 48, 49] (by decide +kernel) (by decide +kernel)
set_option maxRecDepth 20000 in
theorem gX9_isDark_X9_taskIs : GoodIn wsX9_isDark (wsV RX9 113 RX9 yX9_taskIs wsX9_taskIs) := goodIn_app (goodIn_of _ (by decide +kernel)) ggX9_isDark_X9_taskIs
set_option maxRecDepth 20000 in
theorem ggX9_isDark_X9_lightOf : GoodIn wsX9_isDark wsX9_lightOf := goodIn_r _ [10, 6, 11, 12, 13, 4, 14, 15, 16, 17, 18, 19, 20, 21, 22, 23, 24, 25, 26, 27, 28, 29, 30, 31, 32, 33, 34, 35, 36, 37, 38, 39, 40, 41, 42, 43, 44, 45, 46, 47, 48, 49] (by decide +kernel) (by decide +kernel)
set_option maxRecDepth 20000 in
theorem gX9_isDark_X9_lightOf : GoodIn wsX9_isDark (wsV RX9 73 RX9 yX9_lightOf wsX9_lightOf) := goodIn_app (goodIn_of _ (by decide +kernel)) ggX9_isDark_X9_lightOf
theorem dX9_isDark_0 : decode cX9_isDark 0 = .ok (.aload_n 0, 1) := by decide +kernel
theorem dX9_isDark_1 : decode cX9_isDark 1 = .ok (.aload_n 0, 1) := by decide +kernel
theorem dX9_isDark_2 : decode cX9_isDark 2 = .ok (.iload_n 1, 1) := by decide +kernel
theorem dX9_isDark_3 : decode cX9_isDark 3 = .ok (.iconst 0, 1) := by decide +kernel
theorem dX9_isDark_4 : decode cX9_isDark 4 = .ok (.invokevirtual 113, 3) := by decide +kernel
theorem dX9_isDark_7 : decode cX9_isDark 7 = .ok (.invokevirtual 73, 3) := by decide +kernel
theorem dX9_isDark_10 : decode cX9_isDark 10 = .ok (.aload_n 0, 1) := by decide +kernel
theorem dX9_isDark_11 : decode cX9_isDark 11 = .ok (.iload_n 1, 1) := by decide +kernel
theorem dX9_isDark_12 : decode cX9_isDark 12 = .ok (.iconst 2, 1) := by decide +kernel
theorem dX9_isDark_13 : decode cX9_isDark 13 = .ok (.invokevirtual 113, 3) := by decide +kernel
theorem dX9_isDark_16 : decode cX9_isDark 16 = .ok (.if_icmp .ge 7, 3) := by decide +kernel
theorem dX9_isDark_19 : decode cX9_isDark 19 = .ok (.iconst 1, 1) := by decide +kernel
theorem dX9_isDark_20 : decode cX9_isDark 20 = .ok (.goto 4, 3) := by decide +kernel
theorem dX9_isDark_23 : decode cX9_isDark 23 = .ok (.iconst 0, 1) := by decide +kernel
theorem dX9_isDark_24 : decode cX9_isDark 24 = .ok (.ireturn, 1) := by decide +kernel
theorem dX9_towards_0 : decode cX9_towards 0 = .ok (.iload_n 1, 1) := by decide +kernel
theorem dX9_towards_1 : decode cX9_towards 1 = .ok (.iconst 4, 1) := by decide +kernel
theorem dX9_towards_2 : decode cX9_towards 2 = .ok (.idiv, 1) := by decide +kernel
theorem dX9_towards_3 : decode cX9_towards 3 = .ok (.iload_n 2, 1) := by decide +kernel
theorem dX9_towards_4 : decode cX9_towards 4 = .ok (.iconst 4, 1) := by decide +kernel
theorem dX9_towards_5 : decode cX9_towards 5 = .ok (.idiv, 1) := by decide +kernel
theorem dX9_towards_6 : decode cX9_towards 6 = .ok (.if_icmp .eq 22, 3) := by decide +kernel
theorem dX9_towards_9 : decode cX9_towards 9 = .ok (.iload_n 1, 1) := by decide +kernel
theorem dX9_towards_10 : decode cX9_towards 10 = .ok (.iconst 4, 1) := by decide +kernel
theorem dX9_towards_11 : decode cX9_towards 11 = .ok (.idiv, 1) := by decide +kernel
theorem dX9_towards_12 : decode cX9_towards 12 = .ok (.iload_n 2, 1) := by decide +kernel
theorem dX9_towards_13 : decode cX9_towards 13 = .ok (.iconst 4, 1) := by decide +kernel
theorem dX9_towards_14 : decode cX9_towards 14 = .ok (.idiv, 1) := by decide +kernel
theorem dX9_towards_15 : decode cX9_towards 15 = .ok (.if_icmp .ge 9, 3) := by decide +kernel
theorem dX9_towards_18 : decode cX9_towards 18 = .ok (.iload_n 1, 1) := by decide +kernel
theorem dX9_towards_19 : decode cX9_towards 19 = .ok (.iconst 4, 1) := by decide +kernel
theorem dX9_towards_20 : decode cX9_towards 20 = .ok (.iadd, 1) := by decide +kernel
theorem dX9_towards_21 : decode cX9_towards 21 = .ok (.goto 6, 3) := by decide +kernel
theorem dX9_towards_24 : decode cX9_towards 24 = .ok (.iload_n 1, 1) := by decide +kernel
theorem dX9_towards_25 : decode cX9_towards 25 = .ok (.iconst 4, 1) := by decide +kernel
theorem dX9_towards_26 : decode cX9_towards 26 = .ok (.isub, 1) := by decide +kernel
theorem dX9_towards_27 : decode cX9_towards 27 = .ok (.ireturn, 1) := by decide +kernel
theorem dX9_towards_28 : decode cX9_towards 28 = .ok (.iload_n 1, 1) := by decide +kernel
theorem dX9_towards_29 : decode cX9_towards 29 = .ok (.iload_n 2, 1) := by decide +kernel
theorem dX9_towards_30 : decode cX9_towards 30 = .ok (.if_icmp .ne 7, 3) := by decide +kernel
theorem dX9_towards_33 : decode cX9_towards 33 = .ok (.iload_n 1, 1) := by decide +kernel
theorem dX9_towards_34 : decode cX9_towards 34 = .ok (.goto 17, 3) := by decide +kernel
theorem dX9_towards_37 : decode cX9_towards 37 = .ok (.iload_n 1, 1) := by decide +kernel
theorem dX9_towards_38 : decode cX9_towards 38 = .ok (.iload_n 2, 1) := by decide +kernel
theorem dX9_towards_39 : decode cX9_towards 39 = .ok (.if_icmp .ge 9, 3) := by decide +kernel
theorem dX9_towards_42 : decode cX9_towards 42 = .ok (.iload_n 1, 1) := by decide +kernel
theorem dX9_towards_43 : decode cX9_towards 43 = .ok (.iconst 1, 1) := by decide +kernel
theorem dX9_towards_44 : decode cX9_towards 44 = .ok (.iadd, 1) := by decide +kernel
theorem dX9_towards_45 : decode cX9_towards 45 = .ok (.goto 6, 3) := by decide +kernel
theorem dX9_towards_48 : decode cX9_towards 48 = .ok (.iload_n 1, 1) := by decide +kernel
theorem dX9_towards_49 : decode cX9_towards 49 = .ok (.iconst 1, 1) := by decide +kernel
theorem dX9_towards_50 : decode cX9_towards 50 = .ok (.isub, 1) := by decide +kernel
theorem dX9_towards_51 : decode cX9_towards 51 = .ok (.ireturn, 1) := by decide +kernel
set_option maxRecDepth 20000 in
theorem ggX9_hour_X9_at : GoodIn wsX9_hour wsX9_at := goodIn_r _ [6] (by decide +kernel) (by decide +kernel)
set_option maxRecDepth 20000 in
theorem gX9_hour_X9_at : GoodIn wsX9_hour (wsV RX9 85 RX9 yX9_at wsX9_at) := goodIn_app (goodIn_of _ (by decide +kernel)) ggX9_hour_X9_at
set_option maxRecDepth 20000 in
theorem ggX9_hour_X9_is : GoodIn wsX9_hour wsX9_is := goodIn_r _ [10, 1, 15, 16, 17, 18, 19, 20, 21, 22, 23, 24, 25, 26, 27, 28, 29, 30, 31] (by decide +kernel) (by decide +kernel)
set_option maxRecDepth 20000 in
theorem gX9_hour_X9_is : GoodIn wsX9_hour (wsV RX9 52 RX9 yX9_is wsX9_is) := goodIn_app (goodIn_of _ (by decide +kernel)) ggX9_hour_X9_is
set_option maxRecDepth 20000 in
theorem ggX9_hour_X9_towards : GoodIn wsX9_hour wsX9_towards := goodIn_r _ [14] (by decide +kernel) (by decide +kernel)
set_option maxRecDepth 20000 in
theorem gX9_hour_X9_towards : GoodIn wsX9_hour (wsV RX9 116 RX9 yX9_towards wsX9_towards) := goodIn_app (goodIn_of _ (by decide +kernel)) ggX9_hour_X9_towards
theorem dX9_hour_0 : decode cX9_hour 0 = .ok (.iconst 0, 1) := by decide +kernel
theorem dX9_hour_1 : decode cX9_hour 1 = .ok (.istore_n 1, 1) := by decide +kernel
theorem dX9_hour_2 : decode cX9_hour 2 = .ok (.iload_n 1, 1) := by decide +kernel
theorem dX9_hour_3 : decode cX9_hour 3 = .ok (.aload_n 0, 1) := by decide +kernel
theorem dX9_hour_4 : decode cX9_hour 4 = .ok (.getfield 9, 3) := by decide +kernel
theorem dX9_hour_7 : decode cX9_hour 7 = .ok (.iconst 1, 1) := by decide +kernel
theorem dX9_hour_8 : decode cX9_hour 8 = .ok (.iaload, 1) := by decide +kernel
theorem dX9_hour_9 : decode cX9_hour 9 = .ok (.if_icmp .ge 67, 3) := by decide +kernel
theorem dX9_hour_12 : decode cX9_hour 12 = .ok (.aload_n 0, 1) := by decide +kernel
theorem dX9_hour_13 : decode cX9_hour 13 = .ok (.getfield 9, 3) := by decide +kernel
theorem dX9_hour_16 : decode cX9_hour 16 = .ok (.aload_n 0, 1) := by decide +kernel
theorem dX9_hour_17 : decode cX9_hour 17 = .ok (.iload_n 1, 1) := by decide +kernel
theorem dX9_hour_18 : decode cX9_hour 18 = .ok (.iconst 1, 1) := by decide +kernel
theorem dX9_hour_19 : decode cX9_hour 19 = .ok (.invokevirtual 85, 3) := by decide +kernel
theorem dX9_hour_22 : decode cX9_hour 22 = .ok (.aload_n 0, 1) := by decide +kernel
theorem dX9_hour_23 : decode cX9_hour 23 = .ok (.aload_n 0, 1) := by decide +kernel
theorem dX9_hour_24 : decode cX9_hour 24 = .ok (.iload_n 1, 1) := by decide +kernel
theorem dX9_hour_25 : decode cX9_hour 25 = .ok (.iconst 1, 1) := by decide +kernel
theorem dX9_hour_26 : decode cX9_hour 26 = .ok (.invokevirtual 52, 3) := by decide +kernel
theorem dX9_hour_29 : decode cX9_hour 29 = .ok (.aload_n 0, 1) := by decide +kernel
theorem dX9_hour_30 : decode cX9_hour 30 = .ok (.iload_n 1, 1) := by decide +kernel
theorem dX9_hour_31 : decode cX9_hour 31 = .ok (.iconst 2, 1) := by decide +kernel
theorem dX9_hour_32 : decode cX9_hour 32 = .ok (.invokevirtual 52, 3) := by decide +kernel
theorem dX9_hour_35 : decode cX9_hour 35 = .ok (.invokevirtual 116, 3) := by decide +kernel
theorem dX9_hour_38 : decode cX9_hour 38 = .ok (.iastore, 1) := by decide +kernel
theorem dX9_hour_39 : decode cX9_hour 39 = .ok (.aload_n 0, 1) := by decide +kernel
theorem dX9_hour_40 : decode cX9_hour 40 = .ok (.getfield 9, 3) := by decide +kernel
theorem dX9_hour_43 : decode cX9_hour 43 = .ok (.aload_n 0, 1) := by decide +kernel
theorem dX9_hour_44 : decode cX9_hour 44 = .ok (.iload_n 1, 1) := by decide +kernel
theorem dX9_hour_45 : decode cX9_hour 45 = .ok (.iconst 4, 1) := by decide +kernel
theorem dX9_hour_46 : decode cX9_hour 46 = .ok (.invokevirtual 85, 3) := by decide +kernel
theorem dX9_hour_49 : decode cX9_hour 49 = .ok (.dup2, 1) := by decide +kernel
theorem dX9_hour_50 : decode cX9_hour 50 = .ok (.iaload, 1) := by decide +kernel
theorem dX9_hour_51 : decode cX9_hour 51 = .ok (.aload_n 0, 1) := by decide +kernel
theorem dX9_hour_52 : decode cX9_hour 52 = .ok (.iload_n 1, 1) := by decide +kernel
theorem dX9_hour_53 : decode cX9_hour 53 = .ok (.iconst 4, 1) := by decide +kernel
theorem dX9_hour_54 : decode cX9_hour 54 = .ok (.invokevirtual 52, 3) := by decide +kernel
theorem dX9_hour_57 : decode cX9_hour 57 = .ok (.sipush 999, 3) := by decide +kernel
theorem dX9_hour_60 : decode cX9_hour 60 = .ok (.if_icmp .ge 7, 3) := by decide +kernel
theorem dX9_hour_63 : decode cX9_hour 63 = .ok (.iconst 1, 1) := by decide +kernel
theorem dX9_hour_64 : decode cX9_hour 64 = .ok (.goto 4, 3) := by decide +kernel
theorem dX9_hour_67 : decode cX9_hour 67 = .ok (.iconst 0, 1) := by decide +kernel
theorem dX9_hour_68 : decode cX9_hour 68 = .ok (.iadd, 1) := by decide +kernel
theorem dX9_hour_69 : decode cX9_hour 69 = .ok (.iastore, 1) := by decide +kernel
theorem dX9_hour_70 : decode cX9_hour 70 = .ok (.iinc 1 1, 3) := by decide +kernel
theorem dX9_hour_73 : decode cX9_hour 73 = .ok (.goto (-71), 3) := by decide +kernel
theorem dX9_hour_76 : decode cX9_hour 76 = .ok (.iconst 0, 1) := by decide +kernel
theorem dX9_hour_77 : decode cX9_hour 77 = .ok (.istore_n 1, 1) := by decide +kernel
theorem dX9_hour_78 : decode cX9_hour 78 = .ok (.iload_n 1, 1) := by decide +kernel
theorem dX9_hour_79 : decode cX9_hour 79 = .ok (.bipush 16, 2) := by decide +kernel
theorem dX9_hour_81 : decode cX9_hour 81 = .ok (.if_icmp .ge 36, 3) := by decide +kernel
theorem dX9_hour_84 : decode cX9_hour 84 = .ok (.aload_n 0, 1) := by decide +kernel
theorem dX9_hour_85 : decode cX9_hour 85 = .ok (.getfield 9, 3) := by decide +kernel
theorem dX9_hour_88 : decode cX9_hour 88 = .ok (.iconst 3, 1) := by decide +kernel
theorem dX9_hour_89 : decode cX9_hour 89 = .ok (.iload_n 1, 1) := by decide +kernel
theorem dX9_hour_90 : decode cX9_hour 90 = .ok (.iadd, 1) := by decide +kernel
theorem dX9_hour_91 : decode cX9_hour 91 = .ok (.dup2, 1) := by decide +kernel
theorem dX9_hour_92 : decode cX9_hour 92 = .ok (.iaload, 1) := by decide +kernel
theorem dX9_hour_93 : decode cX9_hour 93 = .ok (.aload_n 0, 1) := by decide +kernel
theorem dX9_hour_94 : decode cX9_hour 94 = .ok (.getfield 9, 3) := by decide +kernel
theorem dX9_hour_97 : decode cX9_hour 97 = .ok (.iconst 3, 1) := by decide +kernel
theorem dX9_hour_98 : decode cX9_hour 98 = .ok (.iload_n 1, 1) := by decide +kernel
theorem dX9_hour_99 : decode cX9_hour 99 = .ok (.iadd, 1) := by decide +kernel
theorem dX9_hour_100 : decode cX9_hour 100 = .ok (.iaload, 1) := by decide +kernel
theorem dX9_hour_101 : decode cX9_hour 101 = .ok (.ifCond .le 7, 3) := by decide +kernel
theorem dX9_hour_104 : decode cX9_hour 104 = .ok (.iconst 1, 1) := by decide +kernel
theorem dX9_hour_105 : decode cX9_hour 105 = .ok (.goto 4, 3) := by decide +kernel
theorem dX9_hour_108 : decode cX9_hour 108 = .ok (.iconst 0, 1) := by decide +kernel
theorem dX9_hour_109 : decode cX9_hour 109 = .ok (.isub, 1) := by decide +kernel
theorem dX9_hour_110 : decode cX9_hour 110 = .ok (.iastore, 1) := by decide +kernel
theorem dX9_hour_111 : decode cX9_hour 111 = .ok (.iinc 1 1, 3) := by decide +kernel
theorem dX9_hour_114 : decode cX9_hour 114 = .ok (.goto (-36), 3) := by decide +kernel
theorem dX9_hour_117 : decode cX9_hour 117 = .ok (.aload_n 0, 1) := by decide +kernel
theorem dX9_hour_118 : decode cX9_hour 118 = .ok (.getfield 9, 3) := by decide +kernel
theorem dX9_hour_121 : decode cX9_hour 121 = .ok (.iconst 0, 1) := by decide +kernel
theorem dX9_hour_122 : decode cX9_hour 122 = .ok (.dup2, 1) := by decide +kernel
theorem dX9_hour_123 : decode cX9_hour 123 = .ok (.iaload, 1) := by decide +kernel
theorem dX9_hour_124 : decode cX9_hour 124 = .ok (.iconst 1, 1) := by decide +kernel
theorem dX9_hour_125 : decode cX9_hour 125 = .ok (.iadd, 1) := by decide +kernel
theorem dX9_hour_126 : decode cX9_hour 126 = .ok (.iastore, 1) := by decide +kernel
theorem dX9_hour_127 : decode cX9_hour 127 = .ok (.return_, 1) := by decide +kernel
set_option maxRecDepth 20000 in
theorem ggX9_doneAhead_X9_lay : GoodIn wsX9_doneAhead wsX9_lay := goodIn_r _ [6] (by decide +kernel) (by decide +kernel)
set_option maxRecDepth 20000 in
theorem gX9_doneAhead_X9_lay : GoodIn wsX9_doneAhead (va_wsS RX9 119 yX9_lay wsX9_lay) := goodIn_app (goodIn_of _ (by decide +kernel)) ggX9_doneAhead_X9_lay
set_option maxRecDepth 20000 in
theorem ggX9_doneAhead_X9_taskIs : GoodIn wsX9_doneAhead wsX9_taskIs := goodIn_r _ [10, 1, 53, 54, 55, 56, 57, 58, 59, 60, 61, 62, 63, 64, 65, 66, 67, 68, 69] (by decide +kernel) (by decide +kernel)
set_option maxRecDepth 20000 in
theorem gX9_doneAhead_X9_taskIs : GoodIn wsX9_doneAhead (wsV RX9 113 RX9 yX9_taskIs wsX9_taskIs) := goodIn_app (goodIn_of _ (by decide +kernel)) ggX9_doneAhead_X9_taskIs
set_option maxRecDepth 20000 in
theorem ggX9_doneAhead_X9_isDark : GoodIn wsX9_doneAhead wsX9_isDark := goodIn_r _ [14, 7, 8, 9, 5, 10, 1, 15, 16, 17, 18, 19, 20, 21, 22, 23, 24, 25, 26, 27, 28, 29, 30, 31, 32, 33, 34, 35, 36, 37, 38, 39, 40, 53, 54, 55, 56, 57, 58, 59, 60, 61, 62, 63, 64, 65, 66, 67, 68, 69] (by decide +kernel) (by decide +kernel)
set_option maxRecDepth 20000 in
theorem gX9_doneAhead_X9_isDark : GoodIn wsX9_doneAhead (wsV RX9 123 RX9 yX9_isDark wsX9_isDark) := goodIn_app (goodIn_of _ (by decide +kernel)) ggX9_doneAhead_X9_isDark
set_option maxRecDepth 20000 in
theorem ggX9_doneAhead_X9_hour : GoodIn wsX9_doneAhead wsX9_hour := goodIn_r _ [44, 1, 45, 46, 47, 5, 48, 27, 28, 29, 30, 49, 50, 51, 52, 53, 54, 55, 56, 57, 58, 59, 60, 61, 62, 63, 64, 65, 66, 67, 68, 69] (by decide +kernel) (by decide +kernel)
set_option maxRecDepth 20000 in
theorem gX9_doneAhead_X9_hour : GoodIn wsX9_doneAhead (wsV RX9 126 RX9 yX9_hour wsX9_hour) := goodIn_app (goodIn_of _ (by decide +kernel)) ggX9_doneAhead_X9_hour
theorem dX9_doneAhead_0 : decode cX9_doneAhead 0 = .ok (.aload_n 0, 1) := by decide +kernel
theorem dX9_doneAhead_1 : decode cX9_doneAhead 1 = .ok (.getfield 9, 3) := by decide +kernel
theorem dX9_doneAhead_4 : decode cX9_doneAhead 4 = .ok (.aload_n 0, 1) := by decide +kernel
theorem dX9_doneAhead_5 : decode cX9_doneAhead 5 = .ok (.getfield 19, 3) := by decide +kernel
theorem dX9_doneAhead_8 : decode cX9_doneAhead 8 = .ok (.invokestatic 119, 3) := by decide +kernel
theorem dX9_doneAhead_11 : decode cX9_doneAhead 11 = .ok (.iconst 0, 1) := by decide +kernel
theorem dX9_doneAhead_12 : decode cX9_doneAhead 12 = .ok (.istore_n 1, 1) := by decide +kernel
theorem dX9_doneAhead_13 : decode cX9_doneAhead 13 = .ok (.iconst 0, 1) := by decide +kernel
theorem dX9_doneAhead_14 : decode cX9_doneAhead 14 = .ok (.istore_n 2, 1) := by decide +kernel
theorem dX9_doneAhead_15 : decode cX9_doneAhead 15 = .ok (.iload_n 2, 1) := by decide +kernel
theorem dX9_doneAhead_16 : decode cX9_doneAhead 16 = .ok (.bipush 100, 2) := by decide +kernel
theorem dX9_doneAhead_18 : decode cX9_doneAhead 18 = .ok (.if_icmp .gt 64, 3) := by decide +kernel
theorem dX9_doneAhead_21 : decode cX9_doneAhead 21 = .ok (.iconst 0, 1) := by decide +kernel
theorem dX9_doneAhead_22 : decode cX9_doneAhead 22 = .ok (.istore_n 3, 1) := by decide +kernel
theorem dX9_doneAhead_23 : decode cX9_doneAhead 23 = .ok (.iload_n 3, 1) := by decide +kernel
theorem dX9_doneAhead_24 : decode cX9_doneAhead 24 = .ok (.aload_n 0, 1) := by decide +kernel
theorem dX9_doneAhead_25 : decode cX9_doneAhead 25 = .ok (.getfield 9, 3) := by decide +kernel
theorem dX9_doneAhead_28 : decode cX9_doneAhead 28 = .ok (.iconst 2, 1) := by decide +kernel
theorem dX9_doneAhead_29 : decode cX9_doneAhead 29 = .ok (.iaload, 1) := by decide +kernel
theorem dX9_doneAhead_30 : decode cX9_doneAhead 30 = .ok (.if_icmp .ge 42, 3) := by decide +kernel
theorem dX9_doneAhead_33 : decode cX9_doneAhead 33 = .ok (.iload_n 1, 1) := by decide +kernel
theorem dX9_doneAhead_34 : decode cX9_doneAhead 34 = .ok (.aload_n 0, 1) := by decide +kernel
theorem dX9_doneAhead_35 : decode cX9_doneAhead 35 = .ok (.iload_n 3, 1) := by decide +kernel
theorem dX9_doneAhead_36 : decode cX9_doneAhead 36 = .ok (.iconst 1, 1) := by decide +kernel
theorem dX9_doneAhead_37 : decode cX9_doneAhead 37 = .ok (.invokevirtual 113, 3) := by decide +kernel
theorem dX9_doneAhead_40 : decode cX9_doneAhead 40 = .ok (.aload_n 0, 1) := by decide +kernel
theorem dX9_doneAhead_41 : decode cX9_doneAhead 41 = .ok (.getfield 9, 3) := by decide +kernel
theorem dX9_doneAhead_44 : decode cX9_doneAhead 44 = .ok (.iconst 0, 1) := by decide +kernel
theorem dX9_doneAhead_45 : decode cX9_doneAhead 45 = .ok (.iaload, 1) := by decide +kernel
theorem dX9_doneAhead_46 : decode cX9_doneAhead 46 = .ok (.if_icmp .ne 17, 3) := by decide +kernel
theorem dX9_doneAhead_49 : decode cX9_doneAhead 49 = .ok (.aload_n 0, 1) := by decide +kernel
theorem dX9_doneAhead_50 : decode cX9_doneAhead 50 = .ok (.iload_n 3, 1) := by decide +kernel
theorem dX9_doneAhead_51 : decode cX9_doneAhead 51 = .ok (.invokevirtual 123, 3) := by decide +kernel
theorem dX9_doneAhead_54 : decode cX9_doneAhead 54 = .ok (.ifCond .ne 9, 3) := by decide +kernel
theorem dX9_doneAhead_57 : decode cX9_doneAhead 57 = .ok (.iconst 1, 1) := by decide +kernel
theorem dX9_doneAhead_58 : decode cX9_doneAhead 58 = .ok (.iload_n 3, 1) := by decide +kernel
theorem dX9_doneAhead_59 : decode cX9_doneAhead 59 = .ok (.ishl, 1) := by decide +kernel
theorem dX9_doneAhead_60 : decode cX9_doneAhead 60 = .ok (.goto 4, 3) := by decide +kernel
theorem dX9_doneAhead_63 : decode cX9_doneAhead 63 = .ok (.iconst 0, 1) := by decide +kernel
theorem dX9_doneAhead_64 : decode cX9_doneAhead 64 = .ok (.ior, 1) := by decide +kernel
theorem dX9_doneAhead_65 : decode cX9_doneAhead 65 = .ok (.istore_n 1, 1) := by decide +kernel
theorem dX9_doneAhead_66 : decode cX9_doneAhead 66 = .ok (.iinc 3 1, 3) := by decide +kernel
theorem dX9_doneAhead_69 : decode cX9_doneAhead 69 = .ok (.goto (-46), 3) := by decide +kernel
theorem dX9_doneAhead_72 : decode cX9_doneAhead 72 = .ok (.aload_n 0, 1) := by decide +kernel
theorem dX9_doneAhead_73 : decode cX9_doneAhead 73 = .ok (.invokevirtual 126, 3) := by decide +kernel
theorem dX9_doneAhead_76 : decode cX9_doneAhead 76 = .ok (.iinc 2 1, 3) := by decide +kernel
theorem dX9_doneAhead_79 : decode cX9_doneAhead 79 = .ok (.goto (-64), 3) := by decide +kernel
theorem dX9_doneAhead_82 : decode cX9_doneAhead 82 = .ok (.aload_n 0, 1) := by decide +kernel
theorem dX9_doneAhead_83 : decode cX9_doneAhead 83 = .ok (.getfield 19, 3) := by decide +kernel
theorem dX9_doneAhead_86 : decode cX9_doneAhead 86 = .ok (.aload_n 0, 1) := by decide +kernel
theorem dX9_doneAhead_87 : decode cX9_doneAhead 87 = .ok (.getfield 9, 3) := by decide +kernel
theorem dX9_doneAhead_90 : decode cX9_doneAhead 90 = .ok (.invokestatic 119, 3) := by decide +kernel
theorem dX9_doneAhead_93 : decode cX9_doneAhead 93 = .ok (.iload_n 1, 1) := by decide +kernel
theorem dX9_doneAhead_94 : decode cX9_doneAhead 94 = .ok (.ireturn, 1) := by decide +kernel
set_option maxRecDepth 20000 in
theorem ggX9_taskOf_X9_isTask : GoodIn wsX9_taskOf wsX9_isTask := goodIn_r _ [5, 6, 7, 8, 4, 9, 70, 71, 72, 73, 74, 75, 76, 77, 78, 79, 80, 81, 82, 83, 84, 85, 86] (by decide +kernel) (by decide +kernel)
set_option maxRecDepth 20000 in
theorem gX9_taskOf_X9_isTask : GoodIn wsX9_taskOf (wsV RX9 129 RX9 yX9_isTask wsX9_isTask) := goodIn_app (goodIn_of _ (by decide +kernel)) ggX9_taskOf_X9_isTask
set_option maxRecDepth 20000 in
theorem ggX9_taskOf_X9_in : GoodIn wsX9_taskOf wsX9_in := goodIn_r _ [9] (by decide +kernel) (by decide +kernel)
set_option maxRecDepth 20000 in
theorem gX9_taskOf_X9_in : GoodIn wsX9_taskOf (va_wsS RX9 48 yX9_in wsX9_in) := goodIn_app (goodIn_of _ (by decide +kernel)) ggX9_taskOf_X9_in
set_option maxRecDepth 20000 in
theorem ggX9_taskOf_X9_no : GoodIn wsX9_taskOf wsX9_no := goodIn_r _ [13, 14, 15, 70, 71, 72, 73, 74, 75, 76, 77, 78, 79, 80, 81, 82, 83, 84, 85, 86] (by decide +kernel) (by decide +kernel)
set_option maxRecDepth 20000 in
theorem gX9_taskOf_X9_no : GoodIn wsX9_taskOf (wsV RX9 82 RX9 yX9_no wsX9_no) := goodIn_app (goodIn_of _ (by decide +kernel)) ggX9_taskOf_X9_no
set_option maxRecDepth 20000 in
theorem ggX9_taskOf_X9_taskIs : GoodIn wsX9_taskOf wsX9_taskIs := goodIn_r _ [19, 6, 70, 71, 72, 73, 74, 75, 76, 77, 78, 79, 80, 81, 82, 83, 84, 85, 86] (by decide +kernel) (by decide +kernel)
set_option maxRecDepth 20000 in
theorem gX9_taskOf_X9_taskIs : GoodIn wsX9_taskOf (wsV RX9 113 RX9 yX9_taskIs wsX9_taskIs) := goodIn_app (goodIn_of _ (by decide +kernel)) ggX9_taskOf_X9_taskIs
set_option maxRecDepth 20000 in
theorem ggX9_taskOf_X9_isDark : GoodIn wsX9_taskOf wsX9_isDark := goodIn_r _ [23, 16, 17, 18, 4, 19, 6, 24, 25, 26, 27, 28, 29, 30, 31, 32, 33, 34, 35, 36, 37, 38, 39, 40, 41, 42, 43, 44, 45, 46, 47, 48, 49, 70, 71, 72, 73, 74, 75, 76, 77, 78, 79, 80, 81, 82, 83, 84, 85, 86] (by decide +kernel) (by decide +kernel)
set_option maxRecDepth 20000 in
theorem gX9_taskOf_X9_isDark : GoodIn wsX9_taskOf (wsV RX9 123 RX9 yX9_isDark wsX9_isDark) := goodIn_app (goodIn_of _ (by decide +kernel)) ggX9_taskOf_X9_isDark
set_option maxRecDepth 20000 in
theorem ggX9_taskOf_X9_doneAhead : GoodIn wsX9_taskOf wsX9_doneAhead := goodIn_r _ [53, 6, 54, 55, 56, 4, 57, 16, 17, 18, 19, 20, 21, 22, 23, 24, 25, 26, 27, 28, 29, 30, 31, 32, 33, 34, 35, 36, 37, 38, 39, 40, 41, 42, 43, 44, 45, 46, 47, 48, 49, 58, 59, 60, 61, 62, 63, 64, 65, 66, 67, 68, 69, 70, 71, 72, 73, 74, 75, 76, 77, 78, 79, 80, 81, 82, 83, 84, 85, 86] (by decide +kernel) (by decide +kernel)
set_option maxRecDepth 20000 in
theorem gX9_taskOf_X9_doneAhead : GoodIn wsX9_taskOf (wsV RX9 132 RX9 yX9_doneAhead wsX9_doneAhead) := goodIn_app (goodIn_of _ (by decide +kernel)) ggX9_taskOf_X9_doneAhead
theorem dX9_taskOf_0 : decode cX9_taskOf 0 = .ok (.aload_n 0, 1) := by decide +kernel
theorem dX9_taskOf_1 : decode cX9_taskOf 1 = .ok (.iload_n 1, 1) := by decide +kernel
theorem dX9_taskOf_2 : decode cX9_taskOf 2 = .ok (.invokevirtual 129, 3) := by decide +kernel
theorem dX9_taskOf_5 : decode cX9_taskOf 5 = .ok (.ifCond .eq 12, 3) := by decide +kernel
theorem dX9_taskOf_8 : decode cX9_taskOf 8 = .ok (.iload_n 2, 1) := by decide +kernel
theorem dX9_taskOf_9 : decode cX9_taskOf 9 = .ok (.iconst 0, 1) := by decide +kernel
theorem dX9_taskOf_10 : decode cX9_taskOf 10 = .ok (.iconst 4, 1) := by decide +kernel
theorem dX9_taskOf_11 : decode cX9_taskOf 11 = .ok (.invokestatic 48, 3) := by decide +kernel
theorem dX9_taskOf_14 : decode cX9_taskOf 14 = .ok (.ifCond .ne 9, 3) := by decide +kernel
theorem dX9_taskOf_17 : decode cX9_taskOf 17 = .ok (.aload_n 0, 1) := by decide +kernel
theorem dX9_taskOf_18 : decode cX9_taskOf 18 = .ok (.iconst 0, 1) := by decide +kernel
theorem dX9_taskOf_19 : decode cX9_taskOf 19 = .ok (.invokevirtual 82, 3) := by decide +kernel
theorem dX9_taskOf_22 : decode cX9_taskOf 22 = .ok (.ireturn, 1) := by decide +kernel
theorem dX9_taskOf_23 : decode cX9_taskOf 23 = .ok (.iload_n 2, 1) := by decide +kernel
theorem dX9_taskOf_24 : decode cX9_taskOf 24 = .ok (.iconst 3, 1) := by decide +kernel
theorem dX9_taskOf_25 : decode cX9_taskOf 25 = .ok (.if_icmp .ge 12, 3) := by decide +kernel
theorem dX9_taskOf_28 : decode cX9_taskOf 28 = .ok (.aload_n 0, 1) := by decide +kernel
theorem dX9_taskOf_29 : decode cX9_taskOf 29 = .ok (.iload_n 1, 1) := by decide +kernel
theorem dX9_taskOf_30 : decode cX9_taskOf 30 = .ok (.iload_n 2, 1) := by decide +kernel
theorem dX9_taskOf_31 : decode cX9_taskOf 31 = .ok (.invokevirtual 113, 3) := by decide +kernel
theorem dX9_taskOf_34 : decode cX9_taskOf 34 = .ok (.goto 32, 3) := by decide +kernel
theorem dX9_taskOf_37 : decode cX9_taskOf 37 = .ok (.iload_n 2, 1) := by decide +kernel
theorem dX9_taskOf_38 : decode cX9_taskOf 38 = .ok (.iconst 3, 1) := by decide +kernel
theorem dX9_taskOf_39 : decode cX9_taskOf 39 = .ok (.if_icmp .ne 19, 3) := by decide +kernel
theorem dX9_taskOf_42 : decode cX9_taskOf 42 = .ok (.aload_n 0, 1) := by decide +kernel
theorem dX9_taskOf_43 : decode cX9_taskOf 43 = .ok (.iload_n 1, 1) := by decide +kernel
theorem dX9_taskOf_44 : decode cX9_taskOf 44 = .ok (.invokevirtual 123, 3) := by decide +kernel
theorem dX9_taskOf_47 : decode cX9_taskOf 47 = .ok (.ifCond .eq 7, 3) := by decide +kernel
theorem dX9_taskOf_50 : decode cX9_taskOf 50 = .ok (.iconst 1, 1) := by decide +kernel
theorem dX9_taskOf_51 : decode cX9_taskOf 51 = .ok (.goto 15, 3) := by decide +kernel
theorem dX9_taskOf_54 : decode cX9_taskOf 54 = .ok (.iconst 0, 1) := by decide +kernel
theorem dX9_taskOf_55 : decode cX9_taskOf 55 = .ok (.goto 11, 3) := by decide +kernel
theorem dX9_taskOf_58 : decode cX9_taskOf 58 = .ok (.aload_n 0, 1) := by decide +kernel
theorem dX9_taskOf_59 : decode cX9_taskOf 59 = .ok (.invokevirtual 132, 3) := by decide +kernel
theorem dX9_taskOf_62 : decode cX9_taskOf 62 = .ok (.iload_n 1, 1) := by decide +kernel
theorem dX9_taskOf_63 : decode cX9_taskOf 63 = .ok (.ishr, 1) := by decide +kernel
theorem dX9_taskOf_64 : decode cX9_taskOf 64 = .ok (.iconst 1, 1) := by decide +kernel
theorem dX9_taskOf_65 : decode cX9_taskOf 65 = .ok (.iand, 1) := by decide +kernel
theorem dX9_taskOf_66 : decode cX9_taskOf 66 = .ok (.ireturn, 1) := by decide +kernel
set_option maxRecDepth 20000 in
theorem ggX9_hours_X9_in : GoodIn wsX9_hours wsX9_in := goodIn_r _ [5] (by decide +kernel) (by decide +kernel)
set_option maxRecDepth 20000 in
theorem gX9_hours_X9_in : GoodIn wsX9_hours (va_wsS RX9 48 yX9_in wsX9_in) := goodIn_app (goodIn_of _ (by decide +kernel)) ggX9_hours_X9_in
set_option maxRecDepth 20000 in
theorem ggX9_hours_X9_no : GoodIn wsX9_hours wsX9_no := goodIn_r _ [9, 10, 11, 54, 55, 56, 57, 58, 59, 60, 61, 62, 63, 64, 65, 66, 67, 68, 69, 70] (by decide +kernel) (by decide +kernel)
set_option maxRecDepth 20000 in
theorem gX9_hours_X9_no : GoodIn wsX9_hours (wsV RX9 82 RX9 yX9_no wsX9_no) := goodIn_app (goodIn_of _ (by decide +kernel)) ggX9_hours_X9_no
set_option maxRecDepth 20000 in
theorem ggX9_hours_X9_hour : GoodIn wsX9_hours wsX9_hour := goodIn_r _ [15, 1, 16, 17, 18, 4, 19, 20, 21, 22, 23, 24, 25, 26, 27, 54, 55, 56, 57, 58, 59, 60, 61, 62, 63, 64, 65, 66, 67, 68, 69, 70] (by decide +kernel) (by decide +kernel)
set_option maxRecDepth 20000 in
theorem gX9_hours_X9_hour : GoodIn wsX9_hours (wsV RX9 126 RX9 yX9_hour wsX9_hour) := goodIn_app (goodIn_of _ (by decide +kernel)) ggX9_hours_X9_hour
set_option maxRecDepth 20000 in
theorem ggX9_hours_X9_lightOfAll : GoodIn wsX9_hours wsX9_lightOfAll := goodIn_r _ [31, 32, 33, 34, 4, 35, 1, 36, 37, 38, 39, 40, 41, 42, 43, 20, 21, 22, 23, 44, 45, 46, 47, 48, 49, 50, 51, 52, 53, 54, 55, 56, 57, 58, 59, 60, 61, 62, 63, 64, 65, 66, 67, 68, 69, 70] (by decide +kernel) (by decide +kernel)
set_option maxRecDepth 20000 in
theorem gX9_hours_X9_lightOfAll : GoodIn wsX9_hours (wsV RX9 136 RX9 yX9_lightOfAll wsX9_lightOfAll) := goodIn_app (goodIn_of _ (by decide +kernel)) ggX9_hours_X9_lightOfAll
theorem dX9_hours_0 : decode cX9_hours 0 = .ok (.iload_n 1, 1) := by decide +kernel
theorem dX9_hours_1 : decode cX9_hours 1 = .ok (.iconst 1, 1) := by decide +kernel
theorem dX9_hours_2 : decode cX9_hours 2 = .ok (.bipush 100, 2) := by decide +kernel
theorem dX9_hours_4 : decode cX9_hours 4 = .ok (.invokestatic 48, 3) := by decide +kernel
theorem dX9_hours_7 : decode cX9_hours 7 = .ok (.ifCond .ne 9, 3) := by decide +kernel
theorem dX9_hours_10 : decode cX9_hours 10 = .ok (.aload_n 0, 1) := by decide +kernel
theorem dX9_hours_11 : decode cX9_hours 11 = .ok (.iconst 0, 1) := by decide +kernel
theorem dX9_hours_12 : decode cX9_hours 12 = .ok (.invokevirtual 82, 3) := by decide +kernel
theorem dX9_hours_15 : decode cX9_hours 15 = .ok (.ireturn, 1) := by decide +kernel
theorem dX9_hours_16 : decode cX9_hours 16 = .ok (.aload_n 0, 1) := by decide +kernel
theorem dX9_hours_17 : decode cX9_hours 17 = .ok (.getfield 9, 3) := by decide +kernel
theorem dX9_hours_20 : decode cX9_hours 20 = .ok (.iconst 0, 1) := by decide +kernel
theorem dX9_hours_21 : decode cX9_hours 21 = .ok (.iaload, 1) := by decide +kernel
theorem dX9_hours_22 : decode cX9_hours 22 = .ok (.iload_n 1, 1) := by decide +kernel
theorem dX9_hours_23 : decode cX9_hours 23 = .ok (.iadd, 1) := by decide +kernel
theorem dX9_hours_24 : decode cX9_hours 24 = .ok (.sipush 9999, 3) := by decide +kernel
theorem dX9_hours_27 : decode cX9_hours 27 = .ok (.if_icmp .le 9, 3) := by decide +kernel
theorem dX9_hours_30 : decode cX9_hours 30 = .ok (.aload_n 0, 1) := by decide +kernel
theorem dX9_hours_31 : decode cX9_hours 31 = .ok (.iconst 4, 1) := by decide +kernel
theorem dX9_hours_32 : decode cX9_hours 32 = .ok (.invokevirtual 82, 3) := by decide +kernel
theorem dX9_hours_35 : decode cX9_hours 35 = .ok (.ireturn, 1) := by decide +kernel
theorem dX9_hours_36 : decode cX9_hours 36 = .ok (.iconst 0, 1) := by decide +kernel
theorem dX9_hours_37 : decode cX9_hours 37 = .ok (.istore_n 2, 1) := by decide +kernel
theorem dX9_hours_38 : decode cX9_hours 38 = .ok (.iload_n 2, 1) := by decide +kernel
theorem dX9_hours_39 : decode cX9_hours 39 = .ok (.iload_n 1, 1) := by decide +kernel
theorem dX9_hours_40 : decode cX9_hours 40 = .ok (.if_icmp .ge 13, 3) := by decide +kernel
theorem dX9_hours_43 : decode cX9_hours 43 = .ok (.aload_n 0, 1) := by decide +kernel
theorem dX9_hours_44 : decode cX9_hours 44 = .ok (.invokevirtual 126, 3) := by decide +kernel
theorem dX9_hours_47 : decode cX9_hours 47 = .ok (.iinc 2 1, 3) := by decide +kernel
theorem dX9_hours_50 : decode cX9_hours 50 = .ok (.goto (-12), 3) := by decide +kernel
theorem dX9_hours_53 : decode cX9_hours 53 = .ok (.aload_n 0, 1) := by decide +kernel
theorem dX9_hours_54 : decode cX9_hours 54 = .ok (.invokevirtual 136, 3) := by decide +kernel
theorem dX9_hours_57 : decode cX9_hours 57 = .ok (.ireturn, 1) := by decide +kernel
set_option maxRecDepth 20000 in
theorem ggX9_now_X9_shines : GoodIn wsX9_now wsX9_shines := goodIn_r _ [6, 7, 8, 9, 5, 10, 1, 11, 12, 13, 14, 15, 16, 17, 67, 68, 69, 70, 71, 72, 73, 74, 75, 76, 77, 78, 79, 80, 81, 82, 83] (by decide +kernel) (by decide +kernel)
set_option maxRecDepth 20000 in
theorem gX9_now_X9_shines : GoodIn wsX9_now (wsV RX9 63 RX9 yX9_shines wsX9_shines) := goodIn_app (goodIn_of _ (by decide +kernel)) ggX9_now_X9_shines
set_option maxRecDepth 20000 in
theorem ggX9_now_X9_is : GoodIn wsX9_now wsX9_is := goodIn_r _ [10, 1, 67, 68, 69, 70, 71, 72, 73, 74, 75, 76, 77, 78, 79, 80, 81, 82, 83] (by decide +kernel) (by decide +kernel)
set_option maxRecDepth 20000 in
theorem gX9_now_X9_is : GoodIn wsX9_now (wsV RX9 52 RX9 yX9_is wsX9_is) := goodIn_app (goodIn_of _ (by decide +kernel)) ggX9_now_X9_is
set_option maxRecDepth 20000 in
theorem ggX9_now_X9_lightOfAll : GoodIn wsX9_now wsX9_lightOfAll := goodIn_r _ [21, 22, 23, 24, 5, 25, 1, 26, 27, 28, 29, 2, 3, 4, 6, 7, 8, 9, 10, 11, 12, 13, 14, 15, 16, 17, 30, 31, 32, 67, 68, 69, 70, 71, 72, 73, 74, 75, 76, 77, 78, 79, 80, 81, 82, 83] (by decide +kernel) (by decide +kernel)
set_option maxRecDepth 20000 in
theorem gX9_now_X9_lightOfAll : GoodIn wsX9_now (wsV RX9 136 RX9 yX9_lightOfAll wsX9_lightOfAll) := goodIn_app (goodIn_of _ (by decide +kernel)) ggX9_now_X9_lightOfAll
set_option maxRecDepth 20000 in
theorem ggX9_now_X9_doneAhead : GoodIn wsX9_now wsX9_doneAhead := goodIn_r _ [36, 1, 37, 38, 39, 5, 40, 41, 42, 43, 44, 45, 46, 47, 48, 22, 23, 24, 25, 26, 27, 28, 29, 2, 3, 4, 6, 7, 8, 9, 10, 11, 12, 13, 14, 15, 16, 17, 30, 31, 32, 49, 50, 51, 52, 53, 54, 55, 56, 57, 58, 59, 60, 67, 68, 69, 70, 71, 72, 73, 74, 75, 76, 77, 78, 79, 80, 81, 82, 83] (by decide +kernel) (by decide +kernel)
set_option maxRecDepth 20000 in
theorem gX9_now_X9_doneAhead : GoodIn wsX9_now (wsV RX9 132 RX9 yX9_doneAhead wsX9_doneAhead) := goodIn_app (goodIn_of _ (by decide +kernel)) ggX9_now_X9_doneAhead
set_option maxRecDepth 20000 in
theorem ggX9_now_X9_no : GoodIn wsX9_now wsX9_no := goodIn_r _ [64, 65, 66, 67, 68, 69, 70, 71, 72, 73, 74, 75, 76, 77, 78, 79, 80, 81, 82, 83] (by decide +kernel) (by decide +kernel)
set_option maxRecDepth 20000 in
theorem gX9_now_X9_no : GoodIn wsX9_now (wsV RX9 82 RX9 yX9_no wsX9_no) := goodIn_app (goodIn_of _ (by decide +kernel)) ggX9_now_X9_no
theorem dX9_now_0 : decode cX9_now 0 = .ok (.iconst 0, 1) := by decide +kernel
theorem dX9_now_1 : decode cX9_now 1 = .ok (.istore_n 2, 1) := by decide +kernel
theorem dX9_now_2 : decode cX9_now 2 = .ok (.iconst 0, 1) := by decide +kernel
theorem dX9_now_3 : decode cX9_now 3 = .ok (.istore_n 3, 1) := by decide +kernel
theorem dX9_now_4 : decode cX9_now 4 = .ok (.iconst 0, 1) := by decide +kernel
theorem dX9_now_5 : decode cX9_now 5 = .ok (.istore 4, 2) := by decide +kernel
theorem dX9_now_7 : decode cX9_now 7 = .ok (.iload 4, 2) := by decide +kernel
theorem dX9_now_9 : decode cX9_now 9 = .ok (.aload_n 0, 1) := by decide +kernel
theorem dX9_now_10 : decode cX9_now 10 = .ok (.getfield 9, 3) := by decide +kernel
theorem dX9_now_13 : decode cX9_now 13 = .ok (.iconst 1, 1) := by decide +kernel
theorem dX9_now_14 : decode cX9_now 14 = .ok (.iaload, 1) := by decide +kernel
theorem dX9_now_15 : decode cX9_now 15 = .ok (.if_icmp .ge 46, 3) := by decide +kernel
theorem dX9_now_18 : decode cX9_now 18 = .ok (.iload_n 2, 1) := by decide +kernel
theorem dX9_now_19 : decode cX9_now 19 = .ok (.aload_n 0, 1) := by decide +kernel
theorem dX9_now_20 : decode cX9_now 20 = .ok (.iload 4, 2) := by decide +kernel
theorem dX9_now_22 : decode cX9_now 22 = .ok (.invokevirtual 63, 3) := by decide +kernel
theorem dX9_now_25 : decode cX9_now 25 = .ok (.iadd, 1) := by decide +kernel
theorem dX9_now_26 : decode cX9_now 26 = .ok (.istore_n 2, 1) := by decide +kernel
theorem dX9_now_27 : decode cX9_now 27 = .ok (.iload_n 3, 1) := by decide +kernel
theorem dX9_now_28 : decode cX9_now 28 = .ok (.aload_n 0, 1) := by decide +kernel
theorem dX9_now_29 : decode cX9_now 29 = .ok (.iload 4, 2) := by decide +kernel
theorem dX9_now_31 : decode cX9_now 31 = .ok (.iconst 1, 1) := by decide +kernel
theorem dX9_now_32 : decode cX9_now 32 = .ok (.invokevirtual 52, 3) := by decide +kernel
theorem dX9_now_35 : decode cX9_now 35 = .ok (.aload_n 0, 1) := by decide +kernel
theorem dX9_now_36 : decode cX9_now 36 = .ok (.iload 4, 2) := by decide +kernel
theorem dX9_now_38 : decode cX9_now 38 = .ok (.iconst 2, 1) := by decide +kernel
theorem dX9_now_39 : decode cX9_now 39 = .ok (.invokevirtual 52, 3) := by decide +kernel
theorem dX9_now_42 : decode cX9_now 42 = .ok (.if_icmp .ne 10, 3) := by decide +kernel
theorem dX9_now_45 : decode cX9_now 45 = .ok (.iconst 1, 1) := by decide +kernel
theorem dX9_now_46 : decode cX9_now 46 = .ok (.iload 4, 2) := by decide +kernel
theorem dX9_now_48 : decode cX9_now 48 = .ok (.ishl, 1) := by decide +kernel
theorem dX9_now_49 : decode cX9_now 49 = .ok (.goto 4, 3) := by decide +kernel
theorem dX9_now_52 : decode cX9_now 52 = .ok (.iconst 0, 1) := by decide +kernel
theorem dX9_now_53 : decode cX9_now 53 = .ok (.ior, 1) := by decide +kernel
theorem dX9_now_54 : decode cX9_now 54 = .ok (.istore_n 3, 1) := by decide +kernel
theorem dX9_now_55 : decode cX9_now 55 = .ok (.iinc 4 1, 3) := by decide +kernel
theorem dX9_now_58 : decode cX9_now 58 = .ok (.goto (-51), 3) := by decide +kernel
theorem dX9_now_61 : decode cX9_now 61 = .ok (.iconst 0, 1) := by decide +kernel
theorem dX9_now_62 : decode cX9_now 62 = .ok (.istore 4, 2) := by decide +kernel
theorem dX9_now_64 : decode cX9_now 64 = .ok (.iconst 0, 1) := by decide +kernel
theorem dX9_now_65 : decode cX9_now 65 = .ok (.istore 5, 2) := by decide +kernel
theorem dX9_now_67 : decode cX9_now 67 = .ok (.iload 5, 2) := by decide +kernel
theorem dX9_now_69 : decode cX9_now 69 = .ok (.bipush 16, 2) := by decide +kernel
theorem dX9_now_71 : decode cX9_now 71 = .ok (.if_icmp .ge 23, 3) := by decide +kernel
theorem dX9_now_74 : decode cX9_now 74 = .ok (.iload 4, 2) := by decide +kernel
theorem dX9_now_76 : decode cX9_now 76 = .ok (.aload_n 0, 1) := by decide +kernel
theorem dX9_now_77 : decode cX9_now 77 = .ok (.getfield 9, 3) := by decide +kernel
theorem dX9_now_80 : decode cX9_now 80 = .ok (.iconst 3, 1) := by decide +kernel
theorem dX9_now_81 : decode cX9_now 81 = .ok (.iload 5, 2) := by decide +kernel
theorem dX9_now_83 : decode cX9_now 83 = .ok (.iadd, 1) := by decide +kernel
theorem dX9_now_84 : decode cX9_now 84 = .ok (.iaload, 1) := by decide +kernel
theorem dX9_now_85 : decode cX9_now 85 = .ok (.iadd, 1) := by decide +kernel
theorem dX9_now_86 : decode cX9_now 86 = .ok (.istore 4, 2) := by decide +kernel
theorem dX9_now_88 : decode cX9_now 88 = .ok (.iinc 5 1, 3) := by decide +kernel
theorem dX9_now_91 : decode cX9_now 91 = .ok (.goto (-24), 3) := by decide +kernel
theorem dX9_now_94 : decode cX9_now 94 = .ok (.iload_n 1, 1) := by decide +kernel
theorem dX9_now_95 : decode cX9_now 95 = .ok (.tableswitch 61 0 5 #[37, 44, 46, 49, 54, 56], 37) := by decide +kernel
theorem dX9_now_132 : decode cX9_now 132 = .ok (.aload_n 0, 1) := by decide +kernel
theorem dX9_now_133 : decode cX9_now 133 = .ok (.getfield 9, 3) := by decide +kernel
theorem dX9_now_136 : decode cX9_now 136 = .ok (.iconst 0, 1) := by decide +kernel
theorem dX9_now_137 : decode cX9_now 137 = .ok (.iaload, 1) := by decide +kernel
theorem dX9_now_138 : decode cX9_now 138 = .ok (.ireturn, 1) := by decide +kernel
theorem dX9_now_139 : decode cX9_now 139 = .ok (.iload_n 2, 1) := by decide +kernel
theorem dX9_now_140 : decode cX9_now 140 = .ok (.ireturn, 1) := by decide +kernel
theorem dX9_now_141 : decode cX9_now 141 = .ok (.iload 4, 2) := by decide +kernel
theorem dX9_now_143 : decode cX9_now 143 = .ok (.ireturn, 1) := by decide +kernel
theorem dX9_now_144 : decode cX9_now 144 = .ok (.aload_n 0, 1) := by decide +kernel
theorem dX9_now_145 : decode cX9_now 145 = .ok (.invokevirtual 136, 3) := by decide +kernel
theorem dX9_now_148 : decode cX9_now 148 = .ok (.ireturn, 1) := by decide +kernel
theorem dX9_now_149 : decode cX9_now 149 = .ok (.iload_n 3, 1) := by decide +kernel
theorem dX9_now_150 : decode cX9_now 150 = .ok (.ireturn, 1) := by decide +kernel
theorem dX9_now_151 : decode cX9_now 151 = .ok (.aload_n 0, 1) := by decide +kernel
theorem dX9_now_152 : decode cX9_now 152 = .ok (.invokevirtual 132, 3) := by decide +kernel
theorem dX9_now_155 : decode cX9_now 155 = .ok (.ireturn, 1) := by decide +kernel
theorem dX9_now_156 : decode cX9_now 156 = .ok (.aload_n 0, 1) := by decide +kernel
theorem dX9_now_157 : decode cX9_now 157 = .ok (.iconst 0, 1) := by decide +kernel
theorem dX9_now_158 : decode cX9_now 158 = .ok (.invokevirtual 82, 3) := by decide +kernel
theorem dX9_now_161 : decode cX9_now 161 = .ok (.ireturn, 1) := by decide +kernel
set_option maxRecDepth 20000 in
theorem ggX9_on_X9_isPlace : GoodIn wsX9_on wsX9_isPlace := goodIn_r _ [6, 7, 8, 5, 9] (by decide +kernel) (by decide +kernel)
set_option maxRecDepth 20000 in
theorem gX9_on_X9_isPlace : GoodIn wsX9_on (va_wsS RX9 76 yX9_isPlace wsX9_isPlace) := goodIn_app (goodIn_of _ (by decide +kernel)) ggX9_on_X9_isPlace
set_option maxRecDepth 20000 in
theorem ggX9_on_X9_in : GoodIn wsX9_on wsX9_in := goodIn_r _ [9] (by decide +kernel) (by decide +kernel)
set_option maxRecDepth 20000 in
theorem gX9_on_X9_in : GoodIn wsX9_on (va_wsS RX9 48 yX9_in wsX9_in) := goodIn_app (goodIn_of _ (by decide +kernel)) ggX9_on_X9_in
set_option maxRecDepth 20000 in
theorem ggX9_on_X9_no : GoodIn wsX9_on wsX9_no := goodIn_r _ [13, 14, 15, 57, 58, 59, 60, 61, 62, 63, 64, 65, 66, 67, 68, 69, 70, 71, 72, 73] (by decide +kernel) (by decide +kernel)
set_option maxRecDepth 20000 in
theorem gX9_on_X9_no : GoodIn wsX9_on (wsV RX9 82 RX9 yX9_no wsX9_no) := goodIn_app (goodIn_of _ (by decide +kernel)) ggX9_on_X9_no
set_option maxRecDepth 20000 in
theorem ggX9_on_X9_lay : GoodIn wsX9_on wsX9_lay := goodIn_r _ [18] (by decide +kernel) (by decide +kernel)
set_option maxRecDepth 20000 in
theorem gX9_on_X9_lay : GoodIn wsX9_on (va_wsS RX9 119 yX9_lay wsX9_lay) := goodIn_app (goodIn_of _ (by decide +kernel)) ggX9_on_X9_lay
set_option maxRecDepth 20000 in
theorem ggX9_on_X9_hour : GoodIn wsX9_on wsX9_hour := goodIn_r _ [22, 1, 23, 24, 25, 5, 26, 27, 28, 29, 30, 31, 32, 33, 34, 57, 58, 59, 60, 61, 62, 63, 64, 65, 66, 67, 68, 69, 70, 71, 72, 73] (by decide +kernel) (by decide +kernel)
set_option maxRecDepth 20000 in
theorem gX9_on_X9_hour : GoodIn wsX9_on (wsV RX9 126 RX9 yX9_hour wsX9_hour) := goodIn_app (goodIn_of _ (by decide +kernel)) ggX9_on_X9_hour
set_option maxRecDepth 20000 in
theorem ggX9_on_X9_lightOf : GoodIn wsX9_on wsX9_lightOf := goodIn_r _ [38, 1, 39, 40, 41, 5, 42, 43, 44, 45, 46, 27, 28, 29, 30, 47, 48, 49, 50, 51, 52, 53, 54, 55, 56, 57, 58, 59, 60, 61, 62, 63, 64, 65, 66, 67, 68, 69, 70, 71, 72, 73] (by decide +kernel) (by decide +kernel)
set_option maxRecDepth 20000 in
theorem gX9_on_X9_lightOf : GoodIn wsX9_on (wsV RX9 73 RX9 yX9_lightOf wsX9_lightOf) := goodIn_app (goodIn_of _ (by decide +kernel)) ggX9_on_X9_lightOf
theorem dX9_on_0 : decode cX9_on 0 = .ok (.iload_n 1, 1) := by decide +kernel
theorem dX9_on_1 : decode cX9_on 1 = .ok (.invokestatic 76, 3) := by decide +kernel
theorem dX9_on_4 : decode cX9_on 4 = .ok (.ifCond .eq 13, 3) := by decide +kernel
theorem dX9_on_7 : decode cX9_on 7 = .ok (.iload_n 2, 1) := by decide +kernel
theorem dX9_on_8 : decode cX9_on 8 = .ok (.iconst 0, 1) := by decide +kernel
theorem dX9_on_9 : decode cX9_on 9 = .ok (.bipush 100, 2) := by decide +kernel
theorem dX9_on_11 : decode cX9_on 11 = .ok (.invokestatic 48, 3) := by decide +kernel
theorem dX9_on_14 : decode cX9_on 14 = .ok (.ifCond .ne 9, 3) := by decide +kernel
theorem dX9_on_17 : decode cX9_on 17 = .ok (.aload_n 0, 1) := by decide +kernel
theorem dX9_on_18 : decode cX9_on 18 = .ok (.iconst 0, 1) := by decide +kernel
theorem dX9_on_19 : decode cX9_on 19 = .ok (.invokevirtual 82, 3) := by decide +kernel
theorem dX9_on_22 : decode cX9_on 22 = .ok (.ireturn, 1) := by decide +kernel
theorem dX9_on_23 : decode cX9_on 23 = .ok (.aload_n 0, 1) := by decide +kernel
theorem dX9_on_24 : decode cX9_on 24 = .ok (.getfield 9, 3) := by decide +kernel
theorem dX9_on_27 : decode cX9_on 27 = .ok (.aload_n 0, 1) := by decide +kernel
theorem dX9_on_28 : decode cX9_on 28 = .ok (.getfield 19, 3) := by decide +kernel
theorem dX9_on_31 : decode cX9_on 31 = .ok (.invokestatic 119, 3) := by decide +kernel
theorem dX9_on_34 : decode cX9_on 34 = .ok (.iconst 0, 1) := by decide +kernel
theorem dX9_on_35 : decode cX9_on 35 = .ok (.istore_n 3, 1) := by decide +kernel
theorem dX9_on_36 : decode cX9_on 36 = .ok (.iload_n 3, 1) := by decide +kernel
theorem dX9_on_37 : decode cX9_on 37 = .ok (.iload_n 2, 1) := by decide +kernel
theorem dX9_on_38 : decode cX9_on 38 = .ok (.if_icmp .ge 13, 3) := by decide +kernel
theorem dX9_on_41 : decode cX9_on 41 = .ok (.aload_n 0, 1) := by decide +kernel
theorem dX9_on_42 : decode cX9_on 42 = .ok (.invokevirtual 126, 3) := by decide +kernel
theorem dX9_on_45 : decode cX9_on 45 = .ok (.iinc 3 1, 3) := by decide +kernel
theorem dX9_on_48 : decode cX9_on 48 = .ok (.goto (-12), 3) := by decide +kernel
theorem dX9_on_51 : decode cX9_on 51 = .ok (.aload_n 0, 1) := by decide +kernel
theorem dX9_on_52 : decode cX9_on 52 = .ok (.iload_n 1, 1) := by decide +kernel
theorem dX9_on_53 : decode cX9_on 53 = .ok (.invokevirtual 73, 3) := by decide +kernel
theorem dX9_on_56 : decode cX9_on 56 = .ok (.istore_n 3, 1) := by decide +kernel
theorem dX9_on_57 : decode cX9_on 57 = .ok (.aload_n 0, 1) := by decide +kernel
theorem dX9_on_58 : decode cX9_on 58 = .ok (.getfield 19, 3) := by decide +kernel
theorem dX9_on_61 : decode cX9_on 61 = .ok (.aload_n 0, 1) := by decide +kernel
theorem dX9_on_62 : decode cX9_on 62 = .ok (.getfield 9, 3) := by decide +kernel
theorem dX9_on_65 : decode cX9_on 65 = .ok (.invokestatic 119, 3) := by decide +kernel
theorem dX9_on_68 : decode cX9_on 68 = .ok (.iload_n 3, 1) := by decide +kernel
theorem dX9_on_69 : decode cX9_on 69 = .ok (.ireturn, 1) := by decide +kernel
set_option maxRecDepth 20000 in
theorem ggX9_comes_X9_taskIs : GoodIn wsX9_comes wsX9_taskIs := goodIn_r _ [6, 1, 10, 11, 12, 13, 14, 15, 16, 17, 18, 19, 20, 21, 22, 23, 24, 25, 26] (by decide +kernel) (by decide +kernel)
set_option maxRecDepth 20000 in
theorem gX9_comes_X9_taskIs : GoodIn wsX9_comes (wsV RX9 113 RX9 yX9_taskIs wsX9_taskIs) := goodIn_app (goodIn_of _ (by decide +kernel)) ggX9_comes_X9_taskIs
set_option maxRecDepth 20000 in
theorem ggX9_comes_X9_in : GoodIn wsX9_comes wsX9_in := goodIn_r _ [9] (by decide +kernel) (by decide +kernel)
set_option maxRecDepth 20000 in
theorem gX9_comes_X9_in : GoodIn wsX9_comes (va_wsS RX9 48 yX9_in wsX9_in) := goodIn_app (goodIn_of _ (by decide +kernel)) ggX9_comes_X9_in
theorem dX9_comes_0 : decode cX9_comes 0 = .ok (.aload_n 0, 1) := by decide +kernel
theorem dX9_comes_1 : decode cX9_comes 1 = .ok (.iload_n 1, 1) := by decide +kernel
theorem dX9_comes_2 : decode cX9_comes 2 = .ok (.iconst 1, 1) := by decide +kernel
theorem dX9_comes_3 : decode cX9_comes 3 = .ok (.invokevirtual 113, 3) := by decide +kernel
theorem dX9_comes_6 : decode cX9_comes 6 = .ok (.aload_n 0, 1) := by decide +kernel
theorem dX9_comes_7 : decode cX9_comes 7 = .ok (.getfield 9, 3) := by decide +kernel
theorem dX9_comes_10 : decode cX9_comes 10 = .ok (.iconst 0, 1) := by decide +kernel
theorem dX9_comes_11 : decode cX9_comes 11 = .ok (.iaload, 1) := by decide +kernel
theorem dX9_comes_12 : decode cX9_comes 12 = .ok (.isub, 1) := by decide +kernel
theorem dX9_comes_13 : decode cX9_comes 13 = .ok (.iconst 0, 1) := by decide +kernel
theorem dX9_comes_14 : decode cX9_comes 14 = .ok (.bipush 100, 2) := by decide +kernel
theorem dX9_comes_16 : decode cX9_comes 16 = .ok (.invokestatic 48, 3) := by decide +kernel
theorem dX9_comes_19 : decode cX9_comes 19 = .ok (.ireturn, 1) := by decide +kernel
set_option maxRecDepth 20000 in
theorem ggX9_dark_X9_doneAhead : GoodIn wsX9_dark wsX9_doneAhead := goodIn_r _ [6, 1, 7, 8, 9, 5, 10, 11, 12, 13, 14, 15, 16, 17, 18, 19, 20, 21, 22, 23, 24, 25, 26, 27, 28, 29, 30, 31, 32, 33, 34, 35, 36, 37, 38, 39, 40, 41, 42, 43, 44, 45, 46, 47, 48, 49, 50, 51, 52, 53, 54, 55, 56, 73, 74, 75, 76, 77, 78, 79, 80, 81, 82, 83, 84, 85, 86, 87, 88, 89] (by decide +kernel) (by decide +kernel)
set_option maxRecDepth 20000 in
theorem gX9_dark_X9_doneAhead : GoodIn wsX9_dark (wsV RX9 132 RX9 yX9_doneAhead wsX9_doneAhead) := goodIn_app (goodIn_of _ (by decide +kernel)) ggX9_dark_X9_doneAhead
set_option maxRecDepth 20000 in
theorem ggX9_dark_X9_comes : GoodIn wsX9_dark wsX9_comes := goodIn_r _ [60, 1, 11, 12, 13, 5, 14, 61, 62, 63, 73, 74, 75, 76, 77, 78, 79, 80, 81, 82, 83, 84, 85, 86, 87, 88, 89] (by decide +kernel) (by decide +kernel)
set_option maxRecDepth 20000 in
theorem gX9_dark_X9_comes : GoodIn wsX9_dark (wsV RX9 139 RX9 yX9_comes wsX9_comes) := goodIn_app (goodIn_of _ (by decide +kernel)) ggX9_dark_X9_comes
set_option maxRecDepth 20000 in
theorem ggX9_dark_X9_has : GoodIn wsX9_dark wsX9_has := goodIn_r _ [66] (by decide +kernel) (by decide +kernel)
set_option maxRecDepth 20000 in
theorem gX9_dark_X9_has : GoodIn wsX9_dark (va_wsS RX9 142 yX9_has wsX9_has) := goodIn_app (goodIn_of _ (by decide +kernel)) ggX9_dark_X9_has
set_option maxRecDepth 20000 in
theorem ggX9_dark_X9_taskIs : GoodIn wsX9_dark wsX9_taskIs := goodIn_r _ [14, 1, 73, 74, 75, 76, 77, 78, 79, 80, 81, 82, 83, 84, 85, 86, 87, 88, 89] (by decide +kernel) (by decide +kernel)
set_option maxRecDepth 20000 in
theorem gX9_dark_X9_taskIs : GoodIn wsX9_dark (wsV RX9 113 RX9 yX9_taskIs wsX9_taskIs) := goodIn_app (goodIn_of _ (by decide +kernel)) ggX9_dark_X9_taskIs
set_option maxRecDepth 20000 in
theorem ggX9_dark_X9_no : GoodIn wsX9_dark wsX9_no := goodIn_r _ [70, 71, 72, 73, 74, 75, 76, 77, 78, 79, 80, 81, 82, 83, 84, 85, 86, 87, 88, 89] (by decide +kernel) (by decide +kernel)
set_option maxRecDepth 20000 in
theorem gX9_dark_X9_no : GoodIn wsX9_dark (wsV RX9 82 RX9 yX9_no wsX9_no) := goodIn_app (goodIn_of _ (by decide +kernel)) ggX9_dark_X9_no
theorem dX9_dark_0 : decode cX9_dark 0 = .ok (.aload_n 0, 1) := by decide +kernel
theorem dX9_dark_1 : decode cX9_dark 1 = .ok (.invokevirtual 132, 3) := by decide +kernel
theorem dX9_dark_4 : decode cX9_dark 4 = .ok (.istore_n 1, 1) := by decide +kernel
theorem dX9_dark_5 : decode cX9_dark 5 = .ok (.iconst (-1), 1) := by decide +kernel
theorem dX9_dark_6 : decode cX9_dark 6 = .ok (.istore_n 2, 1) := by decide +kernel
theorem dX9_dark_7 : decode cX9_dark 7 = .ok (.aload_n 0, 1) := by decide +kernel
theorem dX9_dark_8 : decode cX9_dark 8 = .ok (.getfield 9, 3) := by decide +kernel
theorem dX9_dark_11 : decode cX9_dark 11 = .ok (.iconst 2, 1) := by decide +kernel
theorem dX9_dark_12 : decode cX9_dark 12 = .ok (.iaload, 1) := by decide +kernel
theorem dX9_dark_13 : decode cX9_dark 13 = .ok (.iconst 1, 1) := by decide +kernel
theorem dX9_dark_14 : decode cX9_dark 14 = .ok (.isub, 1) := by decide +kernel
theorem dX9_dark_15 : decode cX9_dark 15 = .ok (.istore_n 3, 1) := by decide +kernel
theorem dX9_dark_16 : decode cX9_dark 16 = .ok (.iload_n 3, 1) := by decide +kernel
theorem dX9_dark_17 : decode cX9_dark 17 = .ok (.ifCond .lt 46, 3) := by decide +kernel
theorem dX9_dark_20 : decode cX9_dark 20 = .ok (.aload_n 0, 1) := by decide +kernel
theorem dX9_dark_21 : decode cX9_dark 21 = .ok (.iload_n 3, 1) := by decide +kernel
theorem dX9_dark_22 : decode cX9_dark 22 = .ok (.invokevirtual 139, 3) := by decide +kernel
theorem dX9_dark_25 : decode cX9_dark 25 = .ok (.ifCond .eq 32, 3) := by decide +kernel
theorem dX9_dark_28 : decode cX9_dark 28 = .ok (.iload_n 1, 1) := by decide +kernel
theorem dX9_dark_29 : decode cX9_dark 29 = .ok (.iload_n 3, 1) := by decide +kernel
theorem dX9_dark_30 : decode cX9_dark 30 = .ok (.invokestatic 142, 3) := by decide +kernel
theorem dX9_dark_33 : decode cX9_dark 33 = .ok (.ifCond .ne 24, 3) := by decide +kernel
theorem dX9_dark_36 : decode cX9_dark 36 = .ok (.iload_n 2, 1) := by decide +kernel
theorem dX9_dark_37 : decode cX9_dark 37 = .ok (.ifCond .lt 18, 3) := by decide +kernel
theorem dX9_dark_40 : decode cX9_dark 40 = .ok (.aload_n 0, 1) := by decide +kernel
theorem dX9_dark_41 : decode cX9_dark 41 = .ok (.iload_n 3, 1) := by decide +kernel
theorem dX9_dark_42 : decode cX9_dark 42 = .ok (.iconst 1, 1) := by decide +kernel
theorem dX9_dark_43 : decode cX9_dark 43 = .ok (.invokevirtual 113, 3) := by decide +kernel
theorem dX9_dark_46 : decode cX9_dark 46 = .ok (.aload_n 0, 1) := by decide +kernel
theorem dX9_dark_47 : decode cX9_dark 47 = .ok (.iload_n 2, 1) := by decide +kernel
theorem dX9_dark_48 : decode cX9_dark 48 = .ok (.iconst 1, 1) := by decide +kernel
theorem dX9_dark_49 : decode cX9_dark 49 = .ok (.invokevirtual 113, 3) := by decide +kernel
theorem dX9_dark_52 : decode cX9_dark 52 = .ok (.if_icmp .gt 5, 3) := by decide +kernel
theorem dX9_dark_55 : decode cX9_dark 55 = .ok (.iload_n 3, 1) := by decide +kernel
theorem dX9_dark_56 : decode cX9_dark 56 = .ok (.istore_n 2, 1) := by decide +kernel
theorem dX9_dark_57 : decode cX9_dark 57 = .ok (.iinc 3 (-1), 3) := by decide +kernel
theorem dX9_dark_60 : decode cX9_dark 60 = .ok (.goto (-44), 3) := by decide +kernel
theorem dX9_dark_63 : decode cX9_dark 63 = .ok (.iload_n 2, 1) := by decide +kernel
theorem dX9_dark_64 : decode cX9_dark 64 = .ok (.ifCond .ge 11, 3) := by decide +kernel
theorem dX9_dark_67 : decode cX9_dark 67 = .ok (.aload_n 0, 1) := by decide +kernel
theorem dX9_dark_68 : decode cX9_dark 68 = .ok (.iconst 3, 1) := by decide +kernel
theorem dX9_dark_69 : decode cX9_dark 69 = .ok (.invokevirtual 82, 3) := by decide +kernel
theorem dX9_dark_72 : decode cX9_dark 72 = .ok (.goto 4, 3) := by decide +kernel
theorem dX9_dark_75 : decode cX9_dark 75 = .ok (.iload_n 2, 1) := by decide +kernel
theorem dX9_dark_76 : decode cX9_dark 76 = .ok (.ireturn, 1) := by decide +kernel
set_option maxRecDepth 20000 in
theorem ggX9_isOut_X9_shines : GoodIn wsX9_isOut wsX9_shines := goodIn_r _ [6, 7, 8, 9, 5, 10, 1, 11, 12, 13, 14, 15, 16, 17, 18, 19, 20, 21, 22, 23, 24, 25, 26, 27, 28, 29, 30, 31, 32, 33, 34] (by decide +kernel) (by decide +kernel)
set_option maxRecDepth 20000 in
theorem gX9_isOut_X9_shines : GoodIn wsX9_isOut (wsV RX9 63 RX9 yX9_shines wsX9_shines) := goodIn_app (goodIn_of _ (by decide +kernel)) ggX9_isOut_X9_shines
theorem dX9_isOut_0 : decode cX9_isOut 0 = .ok (.iconst 0, 1) := by decide +kernel
theorem dX9_isOut_1 : decode cX9_isOut 1 = .ok (.istore_n 1, 1) := by decide +kernel
theorem dX9_isOut_2 : decode cX9_isOut 2 = .ok (.iconst 0, 1) := by decide +kernel
theorem dX9_isOut_3 : decode cX9_isOut 3 = .ok (.istore_n 2, 1) := by decide +kernel
theorem dX9_isOut_4 : decode cX9_isOut 4 = .ok (.iload_n 2, 1) := by decide +kernel
theorem dX9_isOut_5 : decode cX9_isOut 5 = .ok (.aload_n 0, 1) := by decide +kernel
theorem dX9_isOut_6 : decode cX9_isOut 6 = .ok (.getfield 9, 3) := by decide +kernel
theorem dX9_isOut_9 : decode cX9_isOut 9 = .ok (.iconst 1, 1) := by decide +kernel
theorem dX9_isOut_10 : decode cX9_isOut 10 = .ok (.iaload, 1) := by decide +kernel
theorem dX9_isOut_11 : decode cX9_isOut 11 = .ok (.if_icmp .ge 17, 3) := by decide +kernel
theorem dX9_isOut_14 : decode cX9_isOut 14 = .ok (.iload_n 1, 1) := by decide +kernel
theorem dX9_isOut_15 : decode cX9_isOut 15 = .ok (.aload_n 0, 1) := by decide +kernel
theorem dX9_isOut_16 : decode cX9_isOut 16 = .ok (.iload_n 2, 1) := by decide +kernel
theorem dX9_isOut_17 : decode cX9_isOut 17 = .ok (.invokevirtual 63, 3) := by decide +kernel
theorem dX9_isOut_20 : decode cX9_isOut 20 = .ok (.iadd, 1) := by decide +kernel
theorem dX9_isOut_21 : decode cX9_isOut 21 = .ok (.istore_n 1, 1) := by decide +kernel
theorem dX9_isOut_22 : decode cX9_isOut 22 = .ok (.iinc 2 1, 3) := by decide +kernel
theorem dX9_isOut_25 : decode cX9_isOut 25 = .ok (.goto (-21), 3) := by decide +kernel
theorem dX9_isOut_28 : decode cX9_isOut 28 = .ok (.iconst 0, 1) := by decide +kernel
theorem dX9_isOut_29 : decode cX9_isOut 29 = .ok (.istore_n 2, 1) := by decide +kernel
theorem dX9_isOut_30 : decode cX9_isOut 30 = .ok (.iload_n 2, 1) := by decide +kernel
theorem dX9_isOut_31 : decode cX9_isOut 31 = .ok (.bipush 16, 2) := by decide +kernel
theorem dX9_isOut_33 : decode cX9_isOut 33 = .ok (.if_icmp .ge 20, 3) := by decide +kernel
theorem dX9_isOut_36 : decode cX9_isOut 36 = .ok (.iload_n 1, 1) := by decide +kernel
theorem dX9_isOut_37 : decode cX9_isOut 37 = .ok (.aload_n 0, 1) := by decide +kernel
theorem dX9_isOut_38 : decode cX9_isOut 38 = .ok (.getfield 9, 3) := by decide +kernel
theorem dX9_isOut_41 : decode cX9_isOut 41 = .ok (.iconst 3, 1) := by decide +kernel
theorem dX9_isOut_42 : decode cX9_isOut 42 = .ok (.iload_n 2, 1) := by decide +kernel
theorem dX9_isOut_43 : decode cX9_isOut 43 = .ok (.iadd, 1) := by decide +kernel
theorem dX9_isOut_44 : decode cX9_isOut 44 = .ok (.iaload, 1) := by decide +kernel
theorem dX9_isOut_45 : decode cX9_isOut 45 = .ok (.iadd, 1) := by decide +kernel
theorem dX9_isOut_46 : decode cX9_isOut 46 = .ok (.istore_n 1, 1) := by decide +kernel
theorem dX9_isOut_47 : decode cX9_isOut 47 = .ok (.iinc 2 1, 3) := by decide +kernel
theorem dX9_isOut_50 : decode cX9_isOut 50 = .ok (.goto (-20), 3) := by decide +kernel
theorem dX9_isOut_53 : decode cX9_isOut 53 = .ok (.iload_n 1, 1) := by decide +kernel
theorem dX9_isOut_54 : decode cX9_isOut 54 = .ok (.ifCond .ne 7, 3) := by decide +kernel
theorem dX9_isOut_57 : decode cX9_isOut 57 = .ok (.iconst 1, 1) := by decide +kernel
theorem dX9_isOut_58 : decode cX9_isOut 58 = .ok (.goto 4, 3) := by decide +kernel
theorem dX9_isOut_61 : decode cX9_isOut 61 = .ok (.iconst 0, 1) := by decide +kernel
theorem dX9_isOut_62 : decode cX9_isOut 62 = .ok (.ireturn, 1) := by decide +kernel
set_option maxRecDepth 20000 in
theorem ggX9_out_X9_lay : GoodIn wsX9_out wsX9_lay := goodIn_r _ [6] (by decide +kernel) (by decide +kernel)
set_option maxRecDepth 20000 in
theorem gX9_out_X9_lay : GoodIn wsX9_out (va_wsS RX9 119 yX9_lay wsX9_lay) := goodIn_app (goodIn_of _ (by decide +kernel)) ggX9_out_X9_lay
set_option maxRecDepth 20000 in
theorem ggX9_out_X9_isOut : GoodIn wsX9_out wsX9_isOut := goodIn_r _ [10, 1, 11, 12, 13, 5, 14, 15, 16, 17, 18, 19, 20, 21, 22, 23, 24, 25, 44, 45, 46, 47, 48, 49, 50, 51, 52, 53, 54, 55, 56, 57, 58, 59, 60] (by decide +kernel) (by decide +kernel)
set_option maxRecDepth 20000 in
theorem gX9_out_X9_isOut : GoodIn wsX9_out (wsV RX9 145 RX9 yX9_isOut wsX9_isOut) := goodIn_app (goodIn_of _ (by decide +kernel)) ggX9_out_X9_isOut
set_option maxRecDepth 20000 in
theorem ggX9_out_X9_hour : GoodIn wsX9_out wsX9_hour := goodIn_r _ [29, 1, 30, 31, 32, 5, 33, 15, 16, 17, 18, 34, 35, 36, 37, 44, 45, 46, 47, 48, 49, 50, 51, 52, 53, 54, 55, 56, 57, 58, 59, 60] (by decide +kernel) (by decide +kernel)
set_option maxRecDepth 20000 in
theorem gX9_out_X9_hour : GoodIn wsX9_out (wsV RX9 126 RX9 yX9_hour wsX9_hour) := goodIn_app (goodIn_of _ (by decide +kernel)) ggX9_out_X9_hour
set_option maxRecDepth 20000 in
theorem ggX9_out_X9_no : GoodIn wsX9_out wsX9_no := goodIn_r _ [41, 42, 43, 44, 45, 46, 47, 48, 49, 50, 51, 52, 53, 54, 55, 56, 57, 58, 59, 60] (by decide +kernel) (by decide +kernel)
set_option maxRecDepth 20000 in
theorem gX9_out_X9_no : GoodIn wsX9_out (wsV RX9 82 RX9 yX9_no wsX9_no) := goodIn_app (goodIn_of _ (by decide +kernel)) ggX9_out_X9_no
theorem dX9_out_0 : decode cX9_out 0 = .ok (.aload_n 0, 1) := by decide +kernel
theorem dX9_out_1 : decode cX9_out 1 = .ok (.getfield 9, 3) := by decide +kernel
theorem dX9_out_4 : decode cX9_out 4 = .ok (.aload_n 0, 1) := by decide +kernel
theorem dX9_out_5 : decode cX9_out 5 = .ok (.getfield 19, 3) := by decide +kernel
theorem dX9_out_8 : decode cX9_out 8 = .ok (.invokestatic 119, 3) := by decide +kernel
theorem dX9_out_11 : decode cX9_out 11 = .ok (.iconst 0, 1) := by decide +kernel
theorem dX9_out_12 : decode cX9_out 12 = .ok (.istore_n 1, 1) := by decide +kernel
theorem dX9_out_13 : decode cX9_out 13 = .ok (.iload_n 1, 1) := by decide +kernel
theorem dX9_out_14 : decode cX9_out 14 = .ok (.bipush 100, 2) := by decide +kernel
theorem dX9_out_16 : decode cX9_out 16 = .ok (.if_icmp .gt 20, 3) := by decide +kernel
theorem dX9_out_19 : decode cX9_out 19 = .ok (.aload_n 0, 1) := by decide +kernel
theorem dX9_out_20 : decode cX9_out 20 = .ok (.invokevirtual 145, 3) := by decide +kernel
theorem dX9_out_23 : decode cX9_out 23 = .ok (.ifCond .ne 13, 3) := by decide +kernel
theorem dX9_out_26 : decode cX9_out 26 = .ok (.aload_n 0, 1) := by decide +kernel
theorem dX9_out_27 : decode cX9_out 27 = .ok (.invokevirtual 126, 3) := by decide +kernel
theorem dX9_out_30 : decode cX9_out 30 = .ok (.iinc 1 1, 3) := by decide +kernel
theorem dX9_out_33 : decode cX9_out 33 = .ok (.goto (-20), 3) := by decide +kernel
theorem dX9_out_36 : decode cX9_out 36 = .ok (.aload_n 0, 1) := by decide +kernel
theorem dX9_out_37 : decode cX9_out 37 = .ok (.getfield 19, 3) := by decide +kernel
theorem dX9_out_40 : decode cX9_out 40 = .ok (.aload_n 0, 1) := by decide +kernel
theorem dX9_out_41 : decode cX9_out 41 = .ok (.getfield 9, 3) := by decide +kernel
theorem dX9_out_44 : decode cX9_out 44 = .ok (.invokestatic 119, 3) := by decide +kernel
theorem dX9_out_47 : decode cX9_out 47 = .ok (.iload_n 1, 1) := by decide +kernel
theorem dX9_out_48 : decode cX9_out 48 = .ok (.bipush 100, 2) := by decide +kernel
theorem dX9_out_50 : decode cX9_out 50 = .ok (.if_icmp .gt 7, 3) := by decide +kernel
theorem dX9_out_53 : decode cX9_out 53 = .ok (.iload_n 1, 1) := by decide +kernel
theorem dX9_out_54 : decode cX9_out 54 = .ok (.goto 8, 3) := by decide +kernel
theorem dX9_out_57 : decode cX9_out 57 = .ok (.aload_n 0, 1) := by decide +kernel
theorem dX9_out_58 : decode cX9_out 58 = .ok (.iconst 3, 1) := by decide +kernel
theorem dX9_out_59 : decode cX9_out 59 = .ok (.invokevirtual 82, 3) := by decide +kernel
theorem dX9_out_62 : decode cX9_out 62 = .ok (.ireturn, 1) := by decide +kernel
set_option maxRecDepth 20000 in
theorem ggX9_meet_X9_isBeing : GoodIn wsX9_meet wsX9_isBeing := goodIn_r _ [7, 1, 8, 9, 6, 10, 36, 37, 38, 39, 40, 41, 42, 43, 44, 45, 46, 47, 48, 49, 50, 51, 52] (by decide +kernel) (by decide +kernel)
set_option maxRecDepth 20000 in
theorem gX9_meet_X9_isBeing : GoodIn wsX9_meet (wsV RX9 95 RX9 yX9_isBeing wsX9_isBeing) := goodIn_app (goodIn_of _ (by decide +kernel)) ggX9_meet_X9_isBeing
set_option maxRecDepth 20000 in
theorem ggX9_meet_X9_no : GoodIn wsX9_meet wsX9_no := goodIn_r _ [14, 15, 16, 36, 37, 38, 39, 40, 41, 42, 43, 44, 45, 46, 47, 48, 49, 50, 51, 52] (by decide +kernel) (by decide +kernel)
set_option maxRecDepth 20000 in
theorem gX9_meet_X9_no : GoodIn wsX9_meet (wsV RX9 82 RX9 yX9_no wsX9_no) := goodIn_app (goodIn_of _ (by decide +kernel)) ggX9_meet_X9_no
set_option maxRecDepth 20000 in
theorem ggX9_meet_X9_lay : GoodIn wsX9_meet wsX9_lay := goodIn_r _ [19] (by decide +kernel) (by decide +kernel)
set_option maxRecDepth 20000 in
theorem gX9_meet_X9_lay : GoodIn wsX9_meet (va_wsS RX9 119 yX9_lay wsX9_lay) := goodIn_app (goodIn_of _ (by decide +kernel)) ggX9_meet_X9_lay
set_option maxRecDepth 20000 in
theorem ggX9_meet_X9_is : GoodIn wsX9_meet wsX9_is := goodIn_r _ [23, 1, 36, 37, 38, 39, 40, 41, 42, 43, 44, 45, 46, 47, 48, 49, 50, 51, 52] (by decide +kernel) (by decide +kernel)
set_option maxRecDepth 20000 in
theorem gX9_meet_X9_is : GoodIn wsX9_meet (wsV RX9 52 RX9 yX9_is wsX9_is) := goodIn_app (goodIn_of _ (by decide +kernel)) ggX9_meet_X9_is
set_option maxRecDepth 20000 in
theorem ggX9_meet_X9_hour : GoodIn wsX9_meet wsX9_hour := goodIn_r _ [27, 1, 28, 29, 30, 6, 31, 20, 21, 22, 23, 32, 33, 34, 35, 36, 37, 38, 39, 40, 41, 42, 43, 44, 45, 46, 47, 48, 49, 50, 51, 52] (by decide +kernel) (by decide +kernel)
set_option maxRecDepth 20000 in
theorem gX9_meet_X9_hour : GoodIn wsX9_meet (wsV RX9 126 RX9 yX9_hour wsX9_hour) := goodIn_app (goodIn_of _ (by decide +kernel)) ggX9_meet_X9_hour
theorem dX9_meet_0 : decode cX9_meet 0 = .ok (.aload_n 0, 1) := by decide +kernel
theorem dX9_meet_1 : decode cX9_meet 1 = .ok (.iload_n 1, 1) := by decide +kernel
theorem dX9_meet_2 : decode cX9_meet 2 = .ok (.invokevirtual 95, 3) := by decide +kernel
theorem dX9_meet_5 : decode cX9_meet 5 = .ok (.ifCond .eq 16, 3) := by decide +kernel
theorem dX9_meet_8 : decode cX9_meet 8 = .ok (.aload_n 0, 1) := by decide +kernel
theorem dX9_meet_9 : decode cX9_meet 9 = .ok (.iload_n 2, 1) := by decide +kernel
theorem dX9_meet_10 : decode cX9_meet 10 = .ok (.invokevirtual 95, 3) := by decide +kernel
theorem dX9_meet_13 : decode cX9_meet 13 = .ok (.ifCond .eq 8, 3) := by decide +kernel
theorem dX9_meet_16 : decode cX9_meet 16 = .ok (.iload_n 1, 1) := by decide +kernel
theorem dX9_meet_17 : decode cX9_meet 17 = .ok (.iload_n 2, 1) := by decide +kernel
theorem dX9_meet_18 : decode cX9_meet 18 = .ok (.if_icmp .ne 9, 3) := by decide +kernel
theorem dX9_meet_21 : decode cX9_meet 21 = .ok (.aload_n 0, 1) := by decide +kernel
theorem dX9_meet_22 : decode cX9_meet 22 = .ok (.iconst 0, 1) := by decide +kernel
theorem dX9_meet_23 : decode cX9_meet 23 = .ok (.invokevirtual 82, 3) := by decide +kernel
theorem dX9_meet_26 : decode cX9_meet 26 = .ok (.ireturn, 1) := by decide +kernel
theorem dX9_meet_27 : decode cX9_meet 27 = .ok (.aload_n 0, 1) := by decide +kernel
theorem dX9_meet_28 : decode cX9_meet 28 = .ok (.getfield 9, 3) := by decide +kernel
theorem dX9_meet_31 : decode cX9_meet 31 = .ok (.aload_n 0, 1) := by decide +kernel
theorem dX9_meet_32 : decode cX9_meet 32 = .ok (.getfield 19, 3) := by decide +kernel
theorem dX9_meet_35 : decode cX9_meet 35 = .ok (.invokestatic 119, 3) := by decide +kernel
theorem dX9_meet_38 : decode cX9_meet 38 = .ok (.iconst 0, 1) := by decide +kernel
theorem dX9_meet_39 : decode cX9_meet 39 = .ok (.istore_n 3, 1) := by decide +kernel
theorem dX9_meet_40 : decode cX9_meet 40 = .ok (.iload_n 3, 1) := by decide +kernel
theorem dX9_meet_41 : decode cX9_meet 41 = .ok (.bipush 100, 2) := by decide +kernel
theorem dX9_meet_43 : decode cX9_meet 43 = .ok (.if_icmp .gt 28, 3) := by decide +kernel
theorem dX9_meet_46 : decode cX9_meet 46 = .ok (.aload_n 0, 1) := by decide +kernel
theorem dX9_meet_47 : decode cX9_meet 47 = .ok (.iload_n 1, 1) := by decide +kernel
theorem dX9_meet_48 : decode cX9_meet 48 = .ok (.iconst 1, 1) := by decide +kernel
theorem dX9_meet_49 : decode cX9_meet 49 = .ok (.invokevirtual 52, 3) := by decide +kernel
theorem dX9_meet_52 : decode cX9_meet 52 = .ok (.aload_n 0, 1) := by decide +kernel
theorem dX9_meet_53 : decode cX9_meet 53 = .ok (.iload_n 2, 1) := by decide +kernel
theorem dX9_meet_54 : decode cX9_meet 54 = .ok (.iconst 1, 1) := by decide +kernel
theorem dX9_meet_55 : decode cX9_meet 55 = .ok (.invokevirtual 52, 3) := by decide +kernel
theorem dX9_meet_58 : decode cX9_meet 58 = .ok (.if_icmp .eq 13, 3) := by decide +kernel
theorem dX9_meet_61 : decode cX9_meet 61 = .ok (.aload_n 0, 1) := by decide +kernel
theorem dX9_meet_62 : decode cX9_meet 62 = .ok (.invokevirtual 126, 3) := by decide +kernel
theorem dX9_meet_65 : decode cX9_meet 65 = .ok (.iinc 3 1, 3) := by decide +kernel
theorem dX9_meet_68 : decode cX9_meet 68 = .ok (.goto (-28), 3) := by decide +kernel
theorem dX9_meet_71 : decode cX9_meet 71 = .ok (.aload_n 0, 1) := by decide +kernel
theorem dX9_meet_72 : decode cX9_meet 72 = .ok (.getfield 19, 3) := by decide +kernel
theorem dX9_meet_75 : decode cX9_meet 75 = .ok (.aload_n 0, 1) := by decide +kernel
theorem dX9_meet_76 : decode cX9_meet 76 = .ok (.getfield 9, 3) := by decide +kernel
theorem dX9_meet_79 : decode cX9_meet 79 = .ok (.invokestatic 119, 3) := by decide +kernel
theorem dX9_meet_82 : decode cX9_meet 82 = .ok (.iload_n 3, 1) := by decide +kernel
theorem dX9_meet_83 : decode cX9_meet 83 = .ok (.bipush 100, 2) := by decide +kernel
theorem dX9_meet_85 : decode cX9_meet 85 = .ok (.if_icmp .gt 7, 3) := by decide +kernel
theorem dX9_meet_88 : decode cX9_meet 88 = .ok (.iload_n 3, 1) := by decide +kernel
theorem dX9_meet_89 : decode cX9_meet 89 = .ok (.goto 8, 3) := by decide +kernel
theorem dX9_meet_92 : decode cX9_meet 92 = .ok (.aload_n 0, 1) := by decide +kernel
theorem dX9_meet_93 : decode cX9_meet 93 = .ok (.iconst 3, 1) := by decide +kernel
theorem dX9_meet_94 : decode cX9_meet 94 = .ok (.invokevirtual 82, 3) := by decide +kernel
theorem dX9_meet_97 : decode cX9_meet 97 = .ok (.ireturn, 1) := by decide +kernel
set_option maxRecDepth 20000 in
theorem ggX9_tellsLights_X9_lightOf : GoodIn wsX9_tellsLights wsX9_lightOf := goodIn_r _ [6, 7, 8, 9, 10, 5, 11, 12, 13, 14, 15, 16, 17, 18, 19, 20, 21, 22, 23, 24, 25, 26, 27, 28, 29, 30, 31, 32, 33, 34, 35, 36, 37, 38, 39, 40, 41, 42, 43, 44, 45, 46] (by decide +kernel) (by decide +kernel)
set_option maxRecDepth 20000 in
theorem gX9_tellsLights_X9_lightOf : GoodIn wsX9_tellsLights (wsV RX9 73 RX9 yX9_lightOf wsX9_lightOf) := goodIn_app (goodIn_of _ (by decide +kernel)) ggX9_tellsLights_X9_lightOf
theorem dX9_tellsLights_0 : decode cX9_tellsLights 0 = .ok (.iconst 0, 1) := by decide +kernel
theorem dX9_tellsLights_1 : decode cX9_tellsLights 1 = .ok (.istore_n 1, 1) := by decide +kernel
theorem dX9_tellsLights_2 : decode cX9_tellsLights 2 = .ok (.iload_n 1, 1) := by decide +kernel
theorem dX9_tellsLights_3 : decode cX9_tellsLights 3 = .ok (.bipush 16, 2) := by decide +kernel
theorem dX9_tellsLights_5 : decode cX9_tellsLights 5 = .ok (.if_icmp .ge 20, 3) := by decide +kernel
theorem dX9_tellsLights_8 : decode cX9_tellsLights 8 = .ok (.aload_n 0, 1) := by decide +kernel
theorem dX9_tellsLights_9 : decode cX9_tellsLights 9 = .ok (.getfield 28, 3) := by decide +kernel
theorem dX9_tellsLights_12 : decode cX9_tellsLights 12 = .ok (.iload_n 1, 1) := by decide +kernel
theorem dX9_tellsLights_13 : decode cX9_tellsLights 13 = .ok (.aload_n 0, 1) := by decide +kernel
theorem dX9_tellsLights_14 : decode cX9_tellsLights 14 = .ok (.iload_n 1, 1) := by decide +kernel
theorem dX9_tellsLights_15 : decode cX9_tellsLights 15 = .ok (.invokevirtual 73, 3) := by decide +kernel
theorem dX9_tellsLights_18 : decode cX9_tellsLights 18 = .ok (.iastore, 1) := by decide +kernel
theorem dX9_tellsLights_19 : decode cX9_tellsLights 19 = .ok (.iinc 1 1, 3) := by decide +kernel
theorem dX9_tellsLights_22 : decode cX9_tellsLights 22 = .ok (.goto (-20), 3) := by decide +kernel
theorem dX9_tellsLights_25 : decode cX9_tellsLights 25 = .ok (.return_, 1) := by decide +kernel
set_option maxRecDepth 20000 in
theorem ggX9_tellsSteps_X9_apart : GoodIn wsX9_tellsSteps wsX9_apart := goodIn_r _ [6] (by decide +kernel) (by decide +kernel)
set_option maxRecDepth 20000 in
theorem gX9_tellsSteps_X9_apart : GoodIn wsX9_tellsSteps (va_wsS RX9 67 yX9_apart wsX9_apart) := goodIn_app (goodIn_of _ (by decide +kernel)) ggX9_tellsSteps_X9_apart
theorem dX9_tellsSteps_0 : decode cX9_tellsSteps 0 = .ok (.iconst 0, 1) := by decide +kernel
theorem dX9_tellsSteps_1 : decode cX9_tellsSteps 1 = .ok (.istore_n 3, 1) := by decide +kernel
theorem dX9_tellsSteps_2 : decode cX9_tellsSteps 2 = .ok (.iload_n 3, 1) := by decide +kernel
theorem dX9_tellsSteps_3 : decode cX9_tellsSteps 3 = .ok (.bipush 16, 2) := by decide +kernel
theorem dX9_tellsSteps_5 : decode cX9_tellsSteps 5 = .ok (.if_icmp .ge 35, 3) := by decide +kernel
theorem dX9_tellsSteps_8 : decode cX9_tellsSteps 8 = .ok (.aload_n 0, 1) := by decide +kernel
theorem dX9_tellsSteps_9 : decode cX9_tellsSteps 9 = .ok (.getfield 25, 3) := by decide +kernel
theorem dX9_tellsSteps_12 : decode cX9_tellsSteps 12 = .ok (.iload_n 3, 1) := by decide +kernel
theorem dX9_tellsSteps_13 : decode cX9_tellsSteps 13 = .ok (.iload_n 3, 1) := by decide +kernel
theorem dX9_tellsSteps_14 : decode cX9_tellsSteps 14 = .ok (.iload_n 1, 1) := by decide +kernel
theorem dX9_tellsSteps_15 : decode cX9_tellsSteps 15 = .ok (.if_icmp .ne 17, 3) := by decide +kernel
theorem dX9_tellsSteps_18 : decode cX9_tellsSteps 18 = .ok (.aload_n 0, 1) := by decide +kernel
theorem dX9_tellsSteps_19 : decode cX9_tellsSteps 19 = .ok (.getfield 28, 3) := by decide +kernel
theorem dX9_tellsSteps_22 : decode cX9_tellsSteps 22 = .ok (.iload_n 3, 1) := by decide +kernel
theorem dX9_tellsSteps_23 : decode cX9_tellsSteps 23 = .ok (.iaload, 1) := by decide +kernel
theorem dX9_tellsSteps_24 : decode cX9_tellsSteps 24 = .ok (.iload_n 2, 1) := by decide +kernel
theorem dX9_tellsSteps_25 : decode cX9_tellsSteps 25 = .ok (.if_icmp .gt 7, 3) := by decide +kernel
theorem dX9_tellsSteps_28 : decode cX9_tellsSteps 28 = .ok (.iconst 0, 1) := by decide +kernel
theorem dX9_tellsSteps_29 : decode cX9_tellsSteps 29 = .ok (.goto 4, 3) := by decide +kernel
theorem dX9_tellsSteps_32 : decode cX9_tellsSteps 32 = .ok (.iconst (-1), 1) := by decide +kernel
theorem dX9_tellsSteps_33 : decode cX9_tellsSteps 33 = .ok (.iastore, 1) := by decide +kernel
theorem dX9_tellsSteps_34 : decode cX9_tellsSteps 34 = .ok (.iinc 3 1, 3) := by decide +kernel
theorem dX9_tellsSteps_37 : decode cX9_tellsSteps 37 = .ok (.goto (-35), 3) := by decide +kernel
theorem dX9_tellsSteps_40 : decode cX9_tellsSteps 40 = .ok (.iconst 0, 1) := by decide +kernel
theorem dX9_tellsSteps_41 : decode cX9_tellsSteps 41 = .ok (.istore_n 3, 1) := by decide +kernel
theorem dX9_tellsSteps_42 : decode cX9_tellsSteps 42 = .ok (.iload_n 3, 1) := by decide +kernel
theorem dX9_tellsSteps_43 : decode cX9_tellsSteps 43 = .ok (.bipush 16, 2) := by decide +kernel
theorem dX9_tellsSteps_45 : decode cX9_tellsSteps 45 = .ok (.if_icmp .ge 104, 3) := by decide +kernel
theorem dX9_tellsSteps_48 : decode cX9_tellsSteps 48 = .ok (.iconst 0, 1) := by decide +kernel
theorem dX9_tellsSteps_49 : decode cX9_tellsSteps 49 = .ok (.istore 4, 2) := by decide +kernel
theorem dX9_tellsSteps_51 : decode cX9_tellsSteps 51 = .ok (.iload 4, 2) := by decide +kernel
theorem dX9_tellsSteps_53 : decode cX9_tellsSteps 53 = .ok (.bipush 16, 2) := by decide +kernel
theorem dX9_tellsSteps_55 : decode cX9_tellsSteps 55 = .ok (.if_icmp .ge 88, 3) := by decide +kernel
theorem dX9_tellsSteps_58 : decode cX9_tellsSteps 58 = .ok (.iconst 0, 1) := by decide +kernel
theorem dX9_tellsSteps_59 : decode cX9_tellsSteps 59 = .ok (.istore 5, 2) := by decide +kernel
theorem dX9_tellsSteps_61 : decode cX9_tellsSteps 61 = .ok (.iload 5, 2) := by decide +kernel
theorem dX9_tellsSteps_63 : decode cX9_tellsSteps 63 = .ok (.bipush 16, 2) := by decide +kernel
theorem dX9_tellsSteps_65 : decode cX9_tellsSteps 65 = .ok (.if_icmp .ge 72, 3) := by decide +kernel
theorem dX9_tellsSteps_68 : decode cX9_tellsSteps 68 = .ok (.aload_n 0, 1) := by decide +kernel
theorem dX9_tellsSteps_69 : decode cX9_tellsSteps 69 = .ok (.getfield 25, 3) := by decide +kernel
theorem dX9_tellsSteps_72 : decode cX9_tellsSteps 72 = .ok (.iload 5, 2) := by decide +kernel
theorem dX9_tellsSteps_74 : decode cX9_tellsSteps 74 = .ok (.aload_n 0, 1) := by decide +kernel
theorem dX9_tellsSteps_75 : decode cX9_tellsSteps 75 = .ok (.getfield 25, 3) := by decide +kernel
theorem dX9_tellsSteps_78 : decode cX9_tellsSteps 78 = .ok (.iload 4, 2) := by decide +kernel
theorem dX9_tellsSteps_80 : decode cX9_tellsSteps 80 = .ok (.iaload, 1) := by decide +kernel
theorem dX9_tellsSteps_81 : decode cX9_tellsSteps 81 = .ok (.iload_n 3, 1) := by decide +kernel
theorem dX9_tellsSteps_82 : decode cX9_tellsSteps 82 = .ok (.if_icmp .ne 41, 3) := by decide +kernel
theorem dX9_tellsSteps_85 : decode cX9_tellsSteps 85 = .ok (.iload 4, 2) := by decide +kernel
theorem dX9_tellsSteps_87 : decode cX9_tellsSteps 87 = .ok (.iload 5, 2) := by decide +kernel
theorem dX9_tellsSteps_89 : decode cX9_tellsSteps 89 = .ok (.invokestatic 67, 3) := by decide +kernel
theorem dX9_tellsSteps_92 : decode cX9_tellsSteps 92 = .ok (.iconst 1, 1) := by decide +kernel
theorem dX9_tellsSteps_93 : decode cX9_tellsSteps 93 = .ok (.if_icmp .ne 30, 3) := by decide +kernel
theorem dX9_tellsSteps_96 : decode cX9_tellsSteps 96 = .ok (.aload_n 0, 1) := by decide +kernel
theorem dX9_tellsSteps_97 : decode cX9_tellsSteps 97 = .ok (.getfield 25, 3) := by decide +kernel
theorem dX9_tellsSteps_100 : decode cX9_tellsSteps 100 = .ok (.iload 5, 2) := by decide +kernel
theorem dX9_tellsSteps_102 : decode cX9_tellsSteps 102 = .ok (.iaload, 1) := by decide +kernel
theorem dX9_tellsSteps_103 : decode cX9_tellsSteps 103 = .ok (.ifCond .ge 20, 3) := by decide +kernel
theorem dX9_tellsSteps_106 : decode cX9_tellsSteps 106 = .ok (.aload_n 0, 1) := by decide +kernel
theorem dX9_tellsSteps_107 : decode cX9_tellsSteps 107 = .ok (.getfield 28, 3) := by decide +kernel
theorem dX9_tellsSteps_110 : decode cX9_tellsSteps 110 = .ok (.iload 5, 2) := by decide +kernel
theorem dX9_tellsSteps_112 : decode cX9_tellsSteps 112 = .ok (.iaload, 1) := by decide +kernel
theorem dX9_tellsSteps_113 : decode cX9_tellsSteps 113 = .ok (.iload_n 2, 1) := by decide +kernel
theorem dX9_tellsSteps_114 : decode cX9_tellsSteps 114 = .ok (.if_icmp .gt 9, 3) := by decide +kernel
theorem dX9_tellsSteps_117 : decode cX9_tellsSteps 117 = .ok (.iload_n 3, 1) := by decide +kernel
theorem dX9_tellsSteps_118 : decode cX9_tellsSteps 118 = .ok (.iconst 1, 1) := by decide +kernel
theorem dX9_tellsSteps_119 : decode cX9_tellsSteps 119 = .ok (.iadd, 1) := by decide +kernel
theorem dX9_tellsSteps_120 : decode cX9_tellsSteps 120 = .ok (.goto 10, 3) := by decide +kernel
theorem dX9_tellsSteps_123 : decode cX9_tellsSteps 123 = .ok (.aload_n 0, 1) := by decide +kernel
theorem dX9_tellsSteps_124 : decode cX9_tellsSteps 124 = .ok (.getfield 25, 3) := by decide +kernel
theorem dX9_tellsSteps_127 : decode cX9_tellsSteps 127 = .ok (.iload 5, 2) := by decide +kernel
theorem dX9_tellsSteps_129 : decode cX9_tellsSteps 129 = .ok (.iaload, 1) := by decide +kernel
theorem dX9_tellsSteps_130 : decode cX9_tellsSteps 130 = .ok (.iastore, 1) := by decide +kernel
theorem dX9_tellsSteps_131 : decode cX9_tellsSteps 131 = .ok (.iinc 5 1, 3) := by decide +kernel
theorem dX9_tellsSteps_134 : decode cX9_tellsSteps 134 = .ok (.goto (-73), 3) := by decide +kernel
theorem dX9_tellsSteps_137 : decode cX9_tellsSteps 137 = .ok (.iinc 4 1, 3) := by decide +kernel
theorem dX9_tellsSteps_140 : decode cX9_tellsSteps 140 = .ok (.goto (-89), 3) := by decide +kernel
theorem dX9_tellsSteps_143 : decode cX9_tellsSteps 143 = .ok (.iinc 3 1, 3) := by decide +kernel
theorem dX9_tellsSteps_146 : decode cX9_tellsSteps 146 = .ok (.goto (-104), 3) := by decide +kernel
theorem dX9_tellsSteps_149 : decode cX9_tellsSteps 149 = .ok (.return_, 1) := by decide +kernel
set_option maxRecDepth 20000 in
theorem ggX9_stealth_X9_isPlace : GoodIn wsX9_stealth wsX9_isPlace := goodIn_r _ [6, 7, 8, 5, 9] (by decide +kernel) (by decide +kernel)
set_option maxRecDepth 20000 in
theorem gX9_stealth_X9_isPlace : GoodIn wsX9_stealth (va_wsS RX9 76 yX9_isPlace wsX9_isPlace) := goodIn_app (goodIn_of _ (by decide +kernel)) ggX9_stealth_X9_isPlace
set_option maxRecDepth 20000 in
theorem ggX9_stealth_X9_no : GoodIn wsX9_stealth wsX9_no := goodIn_r _ [13, 14, 15, 51, 52, 53, 54, 55, 56, 57, 58, 59, 60, 61, 62, 63, 64, 65, 66, 67] (by decide +kernel) (by decide +kernel)
set_option maxRecDepth 20000 in
theorem gX9_stealth_X9_no : GoodIn wsX9_stealth (wsV RX9 82 RX9 yX9_no wsX9_no) := goodIn_app (goodIn_of _ (by decide +kernel)) ggX9_stealth_X9_no
set_option maxRecDepth 20000 in
theorem ggX9_stealth_X9_tellsLights : GoodIn wsX9_stealth wsX9_tellsLights := goodIn_r _ [19, 1, 20, 21, 22, 5, 23, 24, 25, 26, 27, 28, 29, 30, 31, 32, 33, 34, 35, 36, 37, 38, 39, 40, 41, 42, 43, 44, 45, 46, 51, 52, 53, 54, 55, 56, 57, 58, 59, 60, 61, 62, 63, 64, 65, 66, 67] (by decide +kernel) (by decide +kernel)
set_option maxRecDepth 20000 in
theorem gX9_stealth_X9_tellsLights : GoodIn wsX9_stealth (wsV RX9 149 RX9 yX9_tellsLights wsX9_tellsLights) := goodIn_app (goodIn_of _ (by decide +kernel)) ggX9_stealth_X9_tellsLights
set_option maxRecDepth 20000 in
theorem ggX9_stealth_X9_tellsSteps : GoodIn wsX9_stealth wsX9_tellsSteps := goodIn_r _ [50, 2, 1, 44, 45, 5, 46, 51, 52, 53, 54, 55, 56, 57, 58, 59, 60, 61, 62, 63, 64, 65, 66, 67] (by decide +kernel) (by decide +kernel)
set_option maxRecDepth 20000 in
theorem gX9_stealth_X9_tellsSteps : GoodIn wsX9_stealth (wsV RX9 152 RX9 yX9_tellsSteps wsX9_tellsSteps) := goodIn_app (goodIn_of _ (by decide +kernel)) ggX9_stealth_X9_tellsSteps
theorem dX9_stealth_0 : decode cX9_stealth 0 = .ok (.iload_n 1, 1) := by decide +kernel
theorem dX9_stealth_1 : decode cX9_stealth 1 = .ok (.invokestatic 76, 3) := by decide +kernel
theorem dX9_stealth_4 : decode cX9_stealth 4 = .ok (.ifCond .eq 10, 3) := by decide +kernel
theorem dX9_stealth_7 : decode cX9_stealth 7 = .ok (.iload_n 2, 1) := by decide +kernel
theorem dX9_stealth_8 : decode cX9_stealth 8 = .ok (.invokestatic 76, 3) := by decide +kernel
theorem dX9_stealth_11 : decode cX9_stealth 11 = .ok (.ifCond .ne 9, 3) := by decide +kernel
theorem dX9_stealth_14 : decode cX9_stealth 14 = .ok (.aload_n 0, 1) := by decide +kernel
theorem dX9_stealth_15 : decode cX9_stealth 15 = .ok (.iconst 0, 1) := by decide +kernel
theorem dX9_stealth_16 : decode cX9_stealth 16 = .ok (.invokevirtual 82, 3) := by decide +kernel
theorem dX9_stealth_19 : decode cX9_stealth 19 = .ok (.ireturn, 1) := by decide +kernel
theorem dX9_stealth_20 : decode cX9_stealth 20 = .ok (.aload_n 0, 1) := by decide +kernel
theorem dX9_stealth_21 : decode cX9_stealth 21 = .ok (.invokevirtual 149, 3) := by decide +kernel
theorem dX9_stealth_24 : decode cX9_stealth 24 = .ok (.iconst (-1), 1) := by decide +kernel
theorem dX9_stealth_25 : decode cX9_stealth 25 = .ok (.istore_n 3, 1) := by decide +kernel
theorem dX9_stealth_26 : decode cX9_stealth 26 = .ok (.iconst 0, 1) := by decide +kernel
theorem dX9_stealth_27 : decode cX9_stealth 27 = .ok (.istore 4, 2) := by decide +kernel
theorem dX9_stealth_29 : decode cX9_stealth 29 = .ok (.iload 4, 2) := by decide +kernel
theorem dX9_stealth_31 : decode cX9_stealth 31 = .ok (.bipush 16, 2) := by decide +kernel
theorem dX9_stealth_33 : decode cX9_stealth 33 = .ok (.if_icmp .ge 57, 3) := by decide +kernel
theorem dX9_stealth_36 : decode cX9_stealth 36 = .ok (.aload_n 0, 1) := by decide +kernel
theorem dX9_stealth_37 : decode cX9_stealth 37 = .ok (.iload_n 2, 1) := by decide +kernel
theorem dX9_stealth_38 : decode cX9_stealth 38 = .ok (.aload_n 0, 1) := by decide +kernel
theorem dX9_stealth_39 : decode cX9_stealth 39 = .ok (.getfield 28, 3) := by decide +kernel
theorem dX9_stealth_42 : decode cX9_stealth 42 = .ok (.iload 4, 2) := by decide +kernel
theorem dX9_stealth_44 : decode cX9_stealth 44 = .ok (.iaload, 1) := by decide +kernel
theorem dX9_stealth_45 : decode cX9_stealth 45 = .ok (.invokevirtual 152, 3) := by decide +kernel
theorem dX9_stealth_48 : decode cX9_stealth 48 = .ok (.aload_n 0, 1) := by decide +kernel
theorem dX9_stealth_49 : decode cX9_stealth 49 = .ok (.getfield 25, 3) := by decide +kernel
theorem dX9_stealth_52 : decode cX9_stealth 52 = .ok (.iload_n 1, 1) := by decide +kernel
theorem dX9_stealth_53 : decode cX9_stealth 53 = .ok (.iaload, 1) := by decide +kernel
theorem dX9_stealth_54 : decode cX9_stealth 54 = .ok (.ifCond .lt 28, 3) := by decide +kernel
theorem dX9_stealth_57 : decode cX9_stealth 57 = .ok (.iload_n 3, 1) := by decide +kernel
theorem dX9_stealth_58 : decode cX9_stealth 58 = .ok (.ifCond .lt 14, 3) := by decide +kernel
theorem dX9_stealth_61 : decode cX9_stealth 61 = .ok (.aload_n 0, 1) := by decide +kernel
theorem dX9_stealth_62 : decode cX9_stealth 62 = .ok (.getfield 28, 3) := by decide +kernel
theorem dX9_stealth_65 : decode cX9_stealth 65 = .ok (.iload 4, 2) := by decide +kernel
theorem dX9_stealth_67 : decode cX9_stealth 67 = .ok (.iaload, 1) := by decide +kernel
theorem dX9_stealth_68 : decode cX9_stealth 68 = .ok (.iload_n 3, 1) := by decide +kernel
theorem dX9_stealth_69 : decode cX9_stealth 69 = .ok (.if_icmp .ge 13, 3) := by decide +kernel
theorem dX9_stealth_72 : decode cX9_stealth 72 = .ok (.aload_n 0, 1) := by decide +kernel
theorem dX9_stealth_73 : decode cX9_stealth 73 = .ok (.getfield 28, 3) := by decide +kernel
theorem dX9_stealth_76 : decode cX9_stealth 76 = .ok (.iload 4, 2) := by decide +kernel
theorem dX9_stealth_78 : decode cX9_stealth 78 = .ok (.iaload, 1) := by decide +kernel
theorem dX9_stealth_79 : decode cX9_stealth 79 = .ok (.goto 4, 3) := by decide +kernel
theorem dX9_stealth_82 : decode cX9_stealth 82 = .ok (.iload_n 3, 1) := by decide +kernel
theorem dX9_stealth_83 : decode cX9_stealth 83 = .ok (.istore_n 3, 1) := by decide +kernel
theorem dX9_stealth_84 : decode cX9_stealth 84 = .ok (.iinc 4 1, 3) := by decide +kernel
theorem dX9_stealth_87 : decode cX9_stealth 87 = .ok (.goto (-58), 3) := by decide +kernel
theorem dX9_stealth_90 : decode cX9_stealth 90 = .ok (.iload_n 3, 1) := by decide +kernel
theorem dX9_stealth_91 : decode cX9_stealth 91 = .ok (.ireturn, 1) := by decide +kernel
set_option maxRecDepth 20000 in
theorem ggX9_areAsked_X9_isPlace : GoodIn wsX9_areAsked wsX9_isPlace := goodIn_r _ [4, 5, 6, 3, 7] (by decide +kernel) (by decide +kernel)
set_option maxRecDepth 20000 in
theorem gX9_areAsked_X9_isPlace : GoodIn wsX9_areAsked (va_wsS RX9 76 yX9_isPlace wsX9_isPlace) := goodIn_app (goodIn_of _ (by decide +kernel)) ggX9_areAsked_X9_isPlace
set_option maxRecDepth 20000 in
theorem ggX9_areAsked_X9_in : GoodIn wsX9_areAsked wsX9_in := goodIn_r _ [7] (by decide +kernel) (by decide +kernel)
set_option maxRecDepth 20000 in
theorem gX9_areAsked_X9_in : GoodIn wsX9_areAsked (va_wsS RX9 48 yX9_in wsX9_in) := goodIn_app (goodIn_of _ (by decide +kernel)) ggX9_areAsked_X9_in
theorem dX9_areAsked_0 : decode cX9_areAsked 0 = .ok (.iload_n 1, 1) := by decide +kernel
theorem dX9_areAsked_1 : decode cX9_areAsked 1 = .ok (.invokestatic 76, 3) := by decide +kernel
theorem dX9_areAsked_4 : decode cX9_areAsked 4 = .ok (.ifCond .eq 25, 3) := by decide +kernel
theorem dX9_areAsked_7 : decode cX9_areAsked 7 = .ok (.iload_n 2, 1) := by decide +kernel
theorem dX9_areAsked_8 : decode cX9_areAsked 8 = .ok (.invokestatic 76, 3) := by decide +kernel
theorem dX9_areAsked_11 : decode cX9_areAsked 11 = .ok (.ifCond .eq 18, 3) := by decide +kernel
theorem dX9_areAsked_14 : decode cX9_areAsked 14 = .ok (.iload_n 3, 1) := by decide +kernel
theorem dX9_areAsked_15 : decode cX9_areAsked 15 = .ok (.iconst 0, 1) := by decide +kernel
theorem dX9_areAsked_16 : decode cX9_areAsked 16 = .ok (.sipush 9999, 3) := by decide +kernel
theorem dX9_areAsked_19 : decode cX9_areAsked 19 = .ok (.invokestatic 48, 3) := by decide +kernel
theorem dX9_areAsked_22 : decode cX9_areAsked 22 = .ok (.ifCond .eq 7, 3) := by decide +kernel
theorem dX9_areAsked_25 : decode cX9_areAsked 25 = .ok (.iconst 1, 1) := by decide +kernel
theorem dX9_areAsked_26 : decode cX9_areAsked 26 = .ok (.goto 4, 3) := by decide +kernel
theorem dX9_areAsked_29 : decode cX9_areAsked 29 = .ok (.iconst 0, 1) := by decide +kernel
theorem dX9_areAsked_30 : decode cX9_areAsked 30 = .ok (.ireturn, 1) := by decide +kernel
set_option maxRecDepth 20000 in
theorem ggX9_way_X9_areAsked : GoodIn wsX9_way wsX9_areAsked := goodIn_r _ [6, 7, 8, 5, 9, 10, 11, 12] (by decide +kernel) (by decide +kernel)
set_option maxRecDepth 20000 in
theorem gX9_way_X9_areAsked : GoodIn wsX9_way (wsV RX9 155 RX9 yX9_areAsked wsX9_areAsked) := goodIn_app (goodIn_of _ (by decide +kernel)) ggX9_way_X9_areAsked
set_option maxRecDepth 20000 in
theorem ggX9_way_X9_no : GoodIn wsX9_way wsX9_no := goodIn_r _ [16, 17, 18, 55, 56, 57, 58, 59, 60, 61, 62, 63, 64, 65, 66, 67, 68, 69, 70, 71] (by decide +kernel) (by decide +kernel)
set_option maxRecDepth 20000 in
theorem gX9_way_X9_no : GoodIn wsX9_way (wsV RX9 82 RX9 yX9_no wsX9_no) := goodIn_app (goodIn_of _ (by decide +kernel)) ggX9_way_X9_no
set_option maxRecDepth 20000 in
theorem ggX9_way_X9_tellsLights : GoodIn wsX9_way wsX9_tellsLights := goodIn_r _ [22, 23, 24, 25, 26, 5, 27, 28, 29, 30, 31, 32, 33, 34, 35, 36, 37, 38, 39, 40, 41, 42, 43, 44, 45, 46, 47, 48, 49, 50, 55, 56, 57, 58, 59, 60, 61, 62, 63, 64, 65, 66, 67, 68, 69, 70, 71] (by decide +kernel) (by decide +kernel)
set_option maxRecDepth 20000 in
theorem gX9_way_X9_tellsLights : GoodIn wsX9_way (wsV RX9 149 RX9 yX9_tellsLights wsX9_tellsLights) := goodIn_app (goodIn_of _ (by decide +kernel)) ggX9_way_X9_tellsLights
set_option maxRecDepth 20000 in
theorem ggX9_way_X9_tellsSteps : GoodIn wsX9_way wsX9_tellsSteps := goodIn_r _ [54, 1, 23, 48, 49, 5, 50, 55, 56, 57, 58, 59, 60, 61, 62, 63, 64, 65, 66, 67, 68, 69, 70, 71] (by decide +kernel) (by decide +kernel)
set_option maxRecDepth 20000 in
theorem gX9_way_X9_tellsSteps : GoodIn wsX9_way (wsV RX9 152 RX9 yX9_tellsSteps wsX9_tellsSteps) := goodIn_app (goodIn_of _ (by decide +kernel)) ggX9_way_X9_tellsSteps
theorem dX9_way_0 : decode cX9_way 0 = .ok (.aload_n 0, 1) := by decide +kernel
theorem dX9_way_1 : decode cX9_way 1 = .ok (.iload_n 1, 1) := by decide +kernel
theorem dX9_way_2 : decode cX9_way 2 = .ok (.iload_n 2, 1) := by decide +kernel
theorem dX9_way_3 : decode cX9_way 3 = .ok (.iload_n 3, 1) := by decide +kernel
theorem dX9_way_4 : decode cX9_way 4 = .ok (.invokevirtual 155, 3) := by decide +kernel
theorem dX9_way_7 : decode cX9_way 7 = .ok (.ifCond .ne 9, 3) := by decide +kernel
theorem dX9_way_10 : decode cX9_way 10 = .ok (.aload_n 0, 1) := by decide +kernel
theorem dX9_way_11 : decode cX9_way 11 = .ok (.iconst 0, 1) := by decide +kernel
theorem dX9_way_12 : decode cX9_way 12 = .ok (.invokevirtual 82, 3) := by decide +kernel
theorem dX9_way_15 : decode cX9_way 15 = .ok (.ireturn, 1) := by decide +kernel
theorem dX9_way_16 : decode cX9_way 16 = .ok (.aload_n 0, 1) := by decide +kernel
theorem dX9_way_17 : decode cX9_way 17 = .ok (.invokevirtual 149, 3) := by decide +kernel
theorem dX9_way_20 : decode cX9_way 20 = .ok (.aload_n 0, 1) := by decide +kernel
theorem dX9_way_21 : decode cX9_way 21 = .ok (.iload_n 2, 1) := by decide +kernel
theorem dX9_way_22 : decode cX9_way 22 = .ok (.iload_n 3, 1) := by decide +kernel
theorem dX9_way_23 : decode cX9_way 23 = .ok (.invokevirtual 152, 3) := by decide +kernel
theorem dX9_way_26 : decode cX9_way 26 = .ok (.aload_n 0, 1) := by decide +kernel
theorem dX9_way_27 : decode cX9_way 27 = .ok (.getfield 25, 3) := by decide +kernel
theorem dX9_way_30 : decode cX9_way 30 = .ok (.iload_n 1, 1) := by decide +kernel
theorem dX9_way_31 : decode cX9_way 31 = .ok (.iaload, 1) := by decide +kernel
theorem dX9_way_32 : decode cX9_way 32 = .ok (.ifCond .ge 11, 3) := by decide +kernel
theorem dX9_way_35 : decode cX9_way 35 = .ok (.aload_n 0, 1) := by decide +kernel
theorem dX9_way_36 : decode cX9_way 36 = .ok (.iconst 3, 1) := by decide +kernel
theorem dX9_way_37 : decode cX9_way 37 = .ok (.invokevirtual 82, 3) := by decide +kernel
theorem dX9_way_40 : decode cX9_way 40 = .ok (.goto 9, 3) := by decide +kernel
theorem dX9_way_43 : decode cX9_way 43 = .ok (.aload_n 0, 1) := by decide +kernel
theorem dX9_way_44 : decode cX9_way 44 = .ok (.getfield 25, 3) := by decide +kernel
theorem dX9_way_47 : decode cX9_way 47 = .ok (.iload_n 1, 1) := by decide +kernel
theorem dX9_way_48 : decode cX9_way 48 = .ok (.iaload, 1) := by decide +kernel
theorem dX9_way_49 : decode cX9_way 49 = .ok (.ireturn, 1) := by decide +kernel
set_option maxRecDepth 20000 in
theorem ggX9_first_X9_areAsked : GoodIn wsX9_first wsX9_areAsked := goodIn_r _ [6, 7, 8, 5, 9, 10, 11, 12] (by decide +kernel) (by decide +kernel)
set_option maxRecDepth 20000 in
theorem gX9_first_X9_areAsked : GoodIn wsX9_first (wsV RX9 155 RX9 yX9_areAsked wsX9_areAsked) := goodIn_app (goodIn_of _ (by decide +kernel)) ggX9_first_X9_areAsked
set_option maxRecDepth 20000 in
theorem ggX9_first_X9_no : GoodIn wsX9_first wsX9_no := goodIn_r _ [16, 17, 18, 55, 56, 57, 58, 59, 60, 61, 62, 63, 64, 65, 66, 67, 68, 69, 70, 71] (by decide +kernel) (by decide +kernel)
set_option maxRecDepth 20000 in
theorem gX9_first_X9_no : GoodIn wsX9_first (wsV RX9 82 RX9 yX9_no wsX9_no) := goodIn_app (goodIn_of _ (by decide +kernel)) ggX9_first_X9_no
set_option maxRecDepth 20000 in
theorem ggX9_first_X9_tellsLights : GoodIn wsX9_first wsX9_tellsLights := goodIn_r _ [22, 23, 24, 25, 26, 5, 27, 28, 29, 30, 31, 32, 33, 34, 35, 36, 37, 38, 39, 40, 41, 42, 43, 44, 45, 46, 47, 48, 49, 50, 55, 56, 57, 58, 59, 60, 61, 62, 63, 64, 65, 66, 67, 68, 69, 70, 71] (by decide +kernel) (by decide +kernel)
set_option maxRecDepth 20000 in
theorem gX9_first_X9_tellsLights : GoodIn wsX9_first (wsV RX9 149 RX9 yX9_tellsLights wsX9_tellsLights) := goodIn_app (goodIn_of _ (by decide +kernel)) ggX9_first_X9_tellsLights
set_option maxRecDepth 20000 in
theorem ggX9_first_X9_tellsSteps : GoodIn wsX9_first wsX9_tellsSteps := goodIn_r _ [54, 1, 23, 48, 49, 5, 50, 55, 56, 57, 58, 59, 60, 61, 62, 63, 64, 65, 66, 67, 68, 69, 70, 71] (by decide +kernel) (by decide +kernel)
set_option maxRecDepth 20000 in
theorem gX9_first_X9_tellsSteps : GoodIn wsX9_first (wsV RX9 152 RX9 yX9_tellsSteps wsX9_tellsSteps) := goodIn_app (goodIn_of _ (by decide +kernel)) ggX9_first_X9_tellsSteps
set_option maxRecDepth 20000 in
theorem ggX9_first_X9_apart : GoodIn wsX9_first wsX9_apart := goodIn_r _ [50] (by decide +kernel) (by decide +kernel)
set_option maxRecDepth 20000 in
theorem gX9_first_X9_apart : GoodIn wsX9_first (va_wsS RX9 67 yX9_apart wsX9_apart) := goodIn_app (goodIn_of _ (by decide +kernel)) ggX9_first_X9_apart
theorem dX9_first_0 : decode cX9_first 0 = .ok (.aload_n 0, 1) := by decide +kernel
theorem dX9_first_1 : decode cX9_first 1 = .ok (.iload_n 1, 1) := by decide +kernel
theorem dX9_first_2 : decode cX9_first 2 = .ok (.iload_n 2, 1) := by decide +kernel
theorem dX9_first_3 : decode cX9_first 3 = .ok (.iload_n 3, 1) := by decide +kernel
theorem dX9_first_4 : decode cX9_first 4 = .ok (.invokevirtual 155, 3) := by decide +kernel
theorem dX9_first_7 : decode cX9_first 7 = .ok (.ifCond .ne 9, 3) := by decide +kernel
theorem dX9_first_10 : decode cX9_first 10 = .ok (.aload_n 0, 1) := by decide +kernel
theorem dX9_first_11 : decode cX9_first 11 = .ok (.iconst 0, 1) := by decide +kernel
theorem dX9_first_12 : decode cX9_first 12 = .ok (.invokevirtual 82, 3) := by decide +kernel
theorem dX9_first_15 : decode cX9_first 15 = .ok (.ireturn, 1) := by decide +kernel
theorem dX9_first_16 : decode cX9_first 16 = .ok (.aload_n 0, 1) := by decide +kernel
theorem dX9_first_17 : decode cX9_first 17 = .ok (.invokevirtual 149, 3) := by decide +kernel
theorem dX9_first_20 : decode cX9_first 20 = .ok (.aload_n 0, 1) := by decide +kernel
theorem dX9_first_21 : decode cX9_first 21 = .ok (.iload_n 2, 1) := by decide +kernel
theorem dX9_first_22 : decode cX9_first 22 = .ok (.iload_n 3, 1) := by decide +kernel
theorem dX9_first_23 : decode cX9_first 23 = .ok (.invokevirtual 152, 3) := by decide +kernel
theorem dX9_first_26 : decode cX9_first 26 = .ok (.aload_n 0, 1) := by decide +kernel
theorem dX9_first_27 : decode cX9_first 27 = .ok (.getfield 25, 3) := by decide +kernel
theorem dX9_first_30 : decode cX9_first 30 = .ok (.iload_n 1, 1) := by decide +kernel
theorem dX9_first_31 : decode cX9_first 31 = .ok (.iaload, 1) := by decide +kernel
theorem dX9_first_32 : decode cX9_first 32 = .ok (.ifCond .gt 9, 3) := by decide +kernel
theorem dX9_first_35 : decode cX9_first 35 = .ok (.aload_n 0, 1) := by decide +kernel
theorem dX9_first_36 : decode cX9_first 36 = .ok (.iconst 3, 1) := by decide +kernel
theorem dX9_first_37 : decode cX9_first 37 = .ok (.invokevirtual 82, 3) := by decide +kernel
theorem dX9_first_40 : decode cX9_first 40 = .ok (.ireturn, 1) := by decide +kernel
theorem dX9_first_41 : decode cX9_first 41 = .ok (.iconst 0, 1) := by decide +kernel
theorem dX9_first_42 : decode cX9_first 42 = .ok (.istore 4, 2) := by decide +kernel
theorem dX9_first_44 : decode cX9_first 44 = .ok (.iload_n 1, 1) := by decide +kernel
theorem dX9_first_45 : decode cX9_first 45 = .ok (.iload 4, 2) := by decide +kernel
theorem dX9_first_47 : decode cX9_first 47 = .ok (.invokestatic 67, 3) := by decide +kernel
theorem dX9_first_50 : decode cX9_first 50 = .ok (.iconst 1, 1) := by decide +kernel
theorem dX9_first_51 : decode cX9_first 51 = .ok (.if_icmp .ne 21, 3) := by decide +kernel
theorem dX9_first_54 : decode cX9_first 54 = .ok (.aload_n 0, 1) := by decide +kernel
theorem dX9_first_55 : decode cX9_first 55 = .ok (.getfield 25, 3) := by decide +kernel
theorem dX9_first_58 : decode cX9_first 58 = .ok (.iload 4, 2) := by decide +kernel
theorem dX9_first_60 : decode cX9_first 60 = .ok (.iaload, 1) := by decide +kernel
theorem dX9_first_61 : decode cX9_first 61 = .ok (.aload_n 0, 1) := by decide +kernel
theorem dX9_first_62 : decode cX9_first 62 = .ok (.getfield 25, 3) := by decide +kernel
theorem dX9_first_65 : decode cX9_first 65 = .ok (.iload_n 1, 1) := by decide +kernel
theorem dX9_first_66 : decode cX9_first 66 = .ok (.iaload, 1) := by decide +kernel
theorem dX9_first_67 : decode cX9_first 67 = .ok (.iconst 1, 1) := by decide +kernel
theorem dX9_first_68 : decode cX9_first 68 = .ok (.isub, 1) := by decide +kernel
theorem dX9_first_69 : decode cX9_first 69 = .ok (.if_icmp .eq 9, 3) := by decide +kernel
theorem dX9_first_72 : decode cX9_first 72 = .ok (.iinc 4 1, 3) := by decide +kernel
theorem dX9_first_75 : decode cX9_first 75 = .ok (.goto (-31), 3) := by decide +kernel
theorem dX9_first_78 : decode cX9_first 78 = .ok (.iload 4, 2) := by decide +kernel
theorem dX9_first_80 : decode cX9_first 80 = .ok (.ireturn, 1) := by decide +kernel
set_option maxRecDepth 20000 in
theorem ggX9_manyWith_X9_puts : GoodIn wsX9_manyWith wsX9_puts := goodIn_r _ [6, 1, 64, 65, 66, 67, 68, 69, 70, 71, 72, 73, 74, 75, 76, 77, 78, 79, 80] (by decide +kernel) (by decide +kernel)
set_option maxRecDepth 20000 in
theorem gX9_manyWith_X9_puts : GoodIn wsX9_manyWith (wsV RX9 79 RX9 yX9_puts wsX9_puts) := goodIn_app (goodIn_of _ (by decide +kernel)) ggX9_manyWith_X9_puts
set_option maxRecDepth 20000 in
theorem ggX9_manyWith_X9_doneAhead : GoodIn wsX9_manyWith wsX9_doneAhead := goodIn_r _ [10, 1, 11, 12, 13, 5, 14, 15, 16, 17, 18, 19, 20, 21, 22, 23, 24, 25, 26, 27, 28, 29, 30, 31, 32, 33, 34, 35, 36, 37, 38, 39, 40, 41, 42, 43, 44, 45, 46, 47, 48, 49, 50, 51, 52, 53, 54, 55, 56, 57, 58, 59, 60, 64, 65, 66, 67, 68, 69, 70, 71, 72, 73, 74, 75, 76, 77, 78, 79, 80] (by decide +kernel) (by decide +kernel)
set_option maxRecDepth 20000 in
theorem gX9_manyWith_X9_doneAhead : GoodIn wsX9_manyWith (wsV RX9 132 RX9 yX9_doneAhead wsX9_doneAhead) := goodIn_app (goodIn_of _ (by decide +kernel)) ggX9_manyWith_X9_doneAhead
set_option maxRecDepth 20000 in
theorem ggX9_manyWith_X9_ones : GoodIn wsX9_manyWith wsX9_ones := goodIn_r _ [63] (by decide +kernel) (by decide +kernel)
set_option maxRecDepth 20000 in
theorem gX9_manyWith_X9_ones : GoodIn wsX9_manyWith (va_wsS RX9 158 yX9_ones wsX9_ones) := goodIn_app (goodIn_of _ (by decide +kernel)) ggX9_manyWith_X9_ones
theorem dX9_manyWith_0 : decode cX9_manyWith 0 = .ok (.aload_n 0, 1) := by decide +kernel
theorem dX9_manyWith_1 : decode cX9_manyWith 1 = .ok (.iload_n 1, 1) := by decide +kernel
theorem dX9_manyWith_2 : decode cX9_manyWith 2 = .ok (.iload_n 2, 1) := by decide +kernel
theorem dX9_manyWith_3 : decode cX9_manyWith 3 = .ok (.invokevirtual 79, 3) := by decide +kernel
theorem dX9_manyWith_6 : decode cX9_manyWith 6 = .ok (.istore_n 3, 1) := by decide +kernel
theorem dX9_manyWith_7 : decode cX9_manyWith 7 = .ok (.aload_n 0, 1) := by decide +kernel
theorem dX9_manyWith_8 : decode cX9_manyWith 8 = .ok (.invokevirtual 132, 3) := by decide +kernel
theorem dX9_manyWith_11 : decode cX9_manyWith 11 = .ok (.invokestatic 158, 3) := by decide +kernel
theorem dX9_manyWith_14 : decode cX9_manyWith 14 = .ok (.istore 4, 2) := by decide +kernel
theorem dX9_manyWith_16 : decode cX9_manyWith 16 = .ok (.aload_n 0, 1) := by decide +kernel
theorem dX9_manyWith_17 : decode cX9_manyWith 17 = .ok (.getfield 9, 3) := by decide +kernel
theorem dX9_manyWith_20 : decode cX9_manyWith 20 = .ok (.iload_n 1, 1) := by decide +kernel
theorem dX9_manyWith_21 : decode cX9_manyWith 21 = .ok (.iload_n 3, 1) := by decide +kernel
theorem dX9_manyWith_22 : decode cX9_manyWith 22 = .ok (.iastore, 1) := by decide +kernel
theorem dX9_manyWith_23 : decode cX9_manyWith 23 = .ok (.iload 4, 2) := by decide +kernel
theorem dX9_manyWith_25 : decode cX9_manyWith 25 = .ok (.ireturn, 1) := by decide +kernel
set_option maxRecDepth 20000 in
theorem ggX9_hang_X9_in : GoodIn wsX9_hang wsX9_in := goodIn_r _ [5] (by decide +kernel) (by decide +kernel)
set_option maxRecDepth 20000 in
theorem gX9_hang_X9_in : GoodIn wsX9_hang (va_wsS RX9 48 yX9_in wsX9_in) := goodIn_app (goodIn_of _ (by decide +kernel)) ggX9_hang_X9_in
set_option maxRecDepth 20000 in
theorem ggX9_hang_X9_no : GoodIn wsX9_hang wsX9_no := goodIn_r _ [9, 10, 11, 77, 78, 79, 80, 81, 82, 83, 84, 85, 86, 87, 88, 89, 90, 91, 92, 93] (by decide +kernel) (by decide +kernel)
set_option maxRecDepth 20000 in
theorem gX9_hang_X9_no : GoodIn wsX9_hang (wsV RX9 82 RX9 yX9_no wsX9_no) := goodIn_app (goodIn_of _ (by decide +kernel)) ggX9_hang_X9_no
set_option maxRecDepth 20000 in
theorem ggX9_hang_X9_manyWith : GoodIn wsX9_hang wsX9_manyWith := goodIn_r _ [15, 1, 16, 17, 18, 4, 19, 20, 21, 22, 23, 24, 25, 26, 27, 28, 29, 30, 31, 32, 33, 34, 35, 36, 37, 38, 39, 40, 41, 42, 43, 44, 45, 46, 47, 48, 49, 50, 51, 52, 53, 54, 55, 56, 57, 58, 59, 60, 61, 62, 63, 64, 65, 66, 67, 68, 69, 70, 71, 72, 73, 74, 75, 76, 77, 78, 79, 80, 81, 82, 83, 84, 85, 86, 87, 88, 89, 90, 91, 92, 93] (by decide +kernel) (by decide +kernel)
set_option maxRecDepth 20000 in
theorem gX9_hang_X9_manyWith : GoodIn wsX9_hang (wsV RX9 161 RX9 yX9_manyWith wsX9_manyWith) := goodIn_app (goodIn_of _ (by decide +kernel)) ggX9_hang_X9_manyWith
theorem dX9_hang_0 : decode cX9_hang 0 = .ok (.iload_n 1, 1) := by decide +kernel
theorem dX9_hang_1 : decode cX9_hang 1 = .ok (.iconst 1, 1) := by decide +kernel
theorem dX9_hang_2 : decode cX9_hang 2 = .ok (.bipush 99, 2) := by decide +kernel
theorem dX9_hang_4 : decode cX9_hang 4 = .ok (.invokestatic 48, 3) := by decide +kernel
theorem dX9_hang_7 : decode cX9_hang 7 = .ok (.ifCond .ne 9, 3) := by decide +kernel
theorem dX9_hang_10 : decode cX9_hang 10 = .ok (.aload_n 0, 1) := by decide +kernel
theorem dX9_hang_11 : decode cX9_hang 11 = .ok (.iconst 0, 1) := by decide +kernel
theorem dX9_hang_12 : decode cX9_hang 12 = .ok (.invokevirtual 82, 3) := by decide +kernel
theorem dX9_hang_15 : decode cX9_hang 15 = .ok (.ireturn, 1) := by decide +kernel
theorem dX9_hang_16 : decode cX9_hang 16 = .ok (.iconst 0, 1) := by decide +kernel
theorem dX9_hang_17 : decode cX9_hang 17 = .ok (.istore_n 2, 1) := by decide +kernel
theorem dX9_hang_18 : decode cX9_hang 18 = .ok (.iconst (-1), 1) := by decide +kernel
theorem dX9_hang_19 : decode cX9_hang 19 = .ok (.istore_n 3, 1) := by decide +kernel
theorem dX9_hang_20 : decode cX9_hang 20 = .ok (.iconst 0, 1) := by decide +kernel
theorem dX9_hang_21 : decode cX9_hang 21 = .ok (.istore 4, 2) := by decide +kernel
theorem dX9_hang_23 : decode cX9_hang 23 = .ok (.iload 4, 2) := by decide +kernel
theorem dX9_hang_25 : decode cX9_hang 25 = .ok (.bipush 16, 2) := by decide +kernel
theorem dX9_hang_27 : decode cX9_hang 27 = .ok (.if_icmp .ge 72, 3) := by decide +kernel
theorem dX9_hang_30 : decode cX9_hang 30 = .ok (.aload_n 0, 1) := by decide +kernel
theorem dX9_hang_31 : decode cX9_hang 31 = .ok (.getfield 9, 3) := by decide +kernel
theorem dX9_hang_34 : decode cX9_hang 34 = .ok (.iconst 3, 1) := by decide +kernel
theorem dX9_hang_35 : decode cX9_hang 35 = .ok (.iload 4, 2) := by decide +kernel
theorem dX9_hang_37 : decode cX9_hang 37 = .ok (.iadd, 1) := by decide +kernel
theorem dX9_hang_38 : decode cX9_hang 38 = .ok (.iaload, 1) := by decide +kernel
theorem dX9_hang_39 : decode cX9_hang 39 = .ok (.iload_n 1, 1) := by decide +kernel
theorem dX9_hang_40 : decode cX9_hang 40 = .ok (.iadd, 1) := by decide +kernel
theorem dX9_hang_41 : decode cX9_hang 41 = .ok (.istore 5, 2) := by decide +kernel
theorem dX9_hang_43 : decode cX9_hang 43 = .ok (.aload_n 0, 1) := by decide +kernel
theorem dX9_hang_44 : decode cX9_hang 44 = .ok (.iconst 3, 1) := by decide +kernel
theorem dX9_hang_45 : decode cX9_hang 45 = .ok (.iload 4, 2) := by decide +kernel
theorem dX9_hang_47 : decode cX9_hang 47 = .ok (.iadd, 1) := by decide +kernel
theorem dX9_hang_48 : decode cX9_hang 48 = .ok (.iload 5, 2) := by decide +kernel
theorem dX9_hang_50 : decode cX9_hang 50 = .ok (.bipush 99, 2) := by decide +kernel
theorem dX9_hang_52 : decode cX9_hang 52 = .ok (.if_icmp .le 8, 3) := by decide +kernel
theorem dX9_hang_55 : decode cX9_hang 55 = .ok (.bipush 99, 2) := by decide +kernel
theorem dX9_hang_57 : decode cX9_hang 57 = .ok (.goto 5, 3) := by decide +kernel
theorem dX9_hang_60 : decode cX9_hang 60 = .ok (.iload 5, 2) := by decide +kernel
theorem dX9_hang_62 : decode cX9_hang 62 = .ok (.invokevirtual 161, 3) := by decide +kernel
theorem dX9_hang_65 : decode cX9_hang 65 = .ok (.istore 6, 2) := by decide +kernel
theorem dX9_hang_67 : decode cX9_hang 67 = .ok (.iload 6, 2) := by decide +kernel
theorem dX9_hang_69 : decode cX9_hang 69 = .ok (.iload_n 3, 1) := by decide +kernel
theorem dX9_hang_70 : decode cX9_hang 70 = .ok (.if_icmp .le 8, 3) := by decide +kernel
theorem dX9_hang_73 : decode cX9_hang 73 = .ok (.iload 4, 2) := by decide +kernel
theorem dX9_hang_75 : decode cX9_hang 75 = .ok (.goto 4, 3) := by decide +kernel
theorem dX9_hang_78 : decode cX9_hang 78 = .ok (.iload_n 2, 1) := by decide +kernel
theorem dX9_hang_79 : decode cX9_hang 79 = .ok (.istore_n 2, 1) := by decide +kernel
theorem dX9_hang_80 : decode cX9_hang 80 = .ok (.iload 6, 2) := by decide +kernel
theorem dX9_hang_82 : decode cX9_hang 82 = .ok (.iload_n 3, 1) := by decide +kernel
theorem dX9_hang_83 : decode cX9_hang 83 = .ok (.if_icmp .le 8, 3) := by decide +kernel
theorem dX9_hang_86 : decode cX9_hang 86 = .ok (.iload 6, 2) := by decide +kernel
theorem dX9_hang_88 : decode cX9_hang 88 = .ok (.goto 4, 3) := by decide +kernel
theorem dX9_hang_91 : decode cX9_hang 91 = .ok (.iload_n 3, 1) := by decide +kernel
theorem dX9_hang_92 : decode cX9_hang 92 = .ok (.istore_n 3, 1) := by decide +kernel
theorem dX9_hang_93 : decode cX9_hang 93 = .ok (.iinc 4 1, 3) := by decide +kernel
theorem dX9_hang_96 : decode cX9_hang 96 = .ok (.goto (-73), 3) := by decide +kernel
theorem dX9_hang_99 : decode cX9_hang 99 = .ok (.iload_n 2, 1) := by decide +kernel
theorem dX9_hang_100 : decode cX9_hang 100 = .ok (.ireturn, 1) := by decide +kernel
set_option maxRecDepth 20000 in
theorem ggX9_meal_X9_isBeing : GoodIn wsX9_meal wsX9_isBeing := goodIn_r _ [6, 1, 7, 8, 5, 9, 81, 82, 83, 84, 85, 86, 87, 88, 89, 90, 91, 92, 93, 94, 95, 96, 97] (by decide +kernel) (by decide +kernel)
set_option maxRecDepth 20000 in
theorem gX9_meal_X9_isBeing : GoodIn wsX9_meal (wsV RX9 95 RX9 yX9_isBeing wsX9_isBeing) := goodIn_app (goodIn_of _ (by decide +kernel)) ggX9_meal_X9_isBeing
set_option maxRecDepth 20000 in
theorem ggX9_meal_X9_isTask : GoodIn wsX9_meal wsX9_isTask := goodIn_r _ [13, 1, 7, 8, 5, 9, 81, 82, 83, 84, 85, 86, 87, 88, 89, 90, 91, 92, 93, 94, 95, 96, 97] (by decide +kernel) (by decide +kernel)
set_option maxRecDepth 20000 in
theorem gX9_meal_X9_isTask : GoodIn wsX9_meal (wsV RX9 129 RX9 yX9_isTask wsX9_isTask) := goodIn_app (goodIn_of _ (by decide +kernel)) ggX9_meal_X9_isTask
set_option maxRecDepth 20000 in
theorem ggX9_meal_X9_no : GoodIn wsX9_meal wsX9_no := goodIn_r _ [17, 18, 19, 81, 82, 83, 84, 85, 86, 87, 88, 89, 90, 91, 92, 93, 94, 95, 96, 97] (by decide +kernel) (by decide +kernel)
set_option maxRecDepth 20000 in
theorem gX9_meal_X9_no : GoodIn wsX9_meal (wsV RX9 82 RX9 yX9_no wsX9_no) := goodIn_app (goodIn_of _ (by decide +kernel)) ggX9_meal_X9_no
set_option maxRecDepth 20000 in
theorem ggX9_meal_X9_is : GoodIn wsX9_meal wsX9_is := goodIn_r _ [23, 1, 81, 82, 83, 84, 85, 86, 87, 88, 89, 90, 91, 92, 93, 94, 95, 96, 97] (by decide +kernel) (by decide +kernel)
set_option maxRecDepth 20000 in
theorem gX9_meal_X9_is : GoodIn wsX9_meal (wsV RX9 52 RX9 yX9_is wsX9_is) := goodIn_app (goodIn_of _ (by decide +kernel)) ggX9_meal_X9_is
set_option maxRecDepth 20000 in
theorem ggX9_meal_X9_eats : GoodIn wsX9_meal wsX9_eats := goodIn_r _ [27, 1, 28, 29, 30, 5, 31, 81, 82, 83, 84, 85, 86, 87, 88, 89, 90, 91, 92, 93, 94, 95, 96, 97] (by decide +kernel) (by decide +kernel)
set_option maxRecDepth 20000 in
theorem gX9_meal_X9_eats : GoodIn wsX9_meal (wsV RX9 105 RX9 yX9_eats wsX9_eats) := goodIn_app (goodIn_of _ (by decide +kernel)) ggX9_meal_X9_eats
set_option maxRecDepth 20000 in
theorem ggX9_meal_X9_doneAhead : GoodIn wsX9_meal wsX9_doneAhead := goodIn_r _ [35, 1, 36, 37, 38, 5, 39, 40, 41, 42, 43, 44, 45, 46, 47, 48, 49, 50, 51, 52, 53, 54, 55, 56, 57, 58, 59, 20, 21, 22, 23, 60, 61, 62, 63, 64, 65, 66, 67, 68, 69, 70, 71, 72, 73, 28, 29, 30, 31, 74, 75, 76, 77, 81, 82, 83, 84, 85, 86, 87, 88, 89, 90, 91, 92, 93, 94, 95, 96, 97] (by decide +kernel) (by decide +kernel)
set_option maxRecDepth 20000 in
theorem gX9_meal_X9_doneAhead : GoodIn wsX9_meal (wsV RX9 132 RX9 yX9_doneAhead wsX9_doneAhead) := goodIn_app (goodIn_of _ (by decide +kernel)) ggX9_meal_X9_doneAhead
set_option maxRecDepth 20000 in
theorem ggX9_meal_X9_has : GoodIn wsX9_meal wsX9_has := goodIn_r _ [80] (by decide +kernel) (by decide +kernel)
set_option maxRecDepth 20000 in
theorem gX9_meal_X9_has : GoodIn wsX9_meal (va_wsS RX9 142 yX9_has wsX9_has) := goodIn_app (goodIn_of _ (by decide +kernel)) ggX9_meal_X9_has
set_option maxRecDepth 20000 in
theorem ggX9_meal_X9_at : GoodIn wsX9_meal wsX9_at := goodIn_r _ [31] (by decide +kernel) (by decide +kernel)
set_option maxRecDepth 20000 in
theorem gX9_meal_X9_at : GoodIn wsX9_meal (wsV RX9 85 RX9 yX9_at wsX9_at) := goodIn_app (goodIn_of _ (by decide +kernel)) ggX9_meal_X9_at
theorem dX9_meal_0 : decode cX9_meal 0 = .ok (.aload_n 0, 1) := by decide +kernel
theorem dX9_meal_1 : decode cX9_meal 1 = .ok (.iload_n 1, 1) := by decide +kernel
theorem dX9_meal_2 : decode cX9_meal 2 = .ok (.invokevirtual 95, 3) := by decide +kernel
theorem dX9_meal_5 : decode cX9_meal 5 = .ok (.ifCond .eq 11, 3) := by decide +kernel
theorem dX9_meal_8 : decode cX9_meal 8 = .ok (.aload_n 0, 1) := by decide +kernel
theorem dX9_meal_9 : decode cX9_meal 9 = .ok (.iload_n 2, 1) := by decide +kernel
theorem dX9_meal_10 : decode cX9_meal 10 = .ok (.invokevirtual 129, 3) := by decide +kernel
theorem dX9_meal_13 : decode cX9_meal 13 = .ok (.ifCond .ne 9, 3) := by decide +kernel
theorem dX9_meal_16 : decode cX9_meal 16 = .ok (.aload_n 0, 1) := by decide +kernel
theorem dX9_meal_17 : decode cX9_meal 17 = .ok (.iconst 0, 1) := by decide +kernel
theorem dX9_meal_18 : decode cX9_meal 18 = .ok (.invokevirtual 82, 3) := by decide +kernel
theorem dX9_meal_21 : decode cX9_meal 21 = .ok (.ireturn, 1) := by decide +kernel
theorem dX9_meal_22 : decode cX9_meal 22 = .ok (.aload_n 0, 1) := by decide +kernel
theorem dX9_meal_23 : decode cX9_meal 23 = .ok (.iload_n 1, 1) := by decide +kernel
theorem dX9_meal_24 : decode cX9_meal 24 = .ok (.iconst 3, 1) := by decide +kernel
theorem dX9_meal_25 : decode cX9_meal 25 = .ok (.invokevirtual 52, 3) := by decide +kernel
theorem dX9_meal_28 : decode cX9_meal 28 = .ok (.istore_n 3, 1) := by decide +kernel
theorem dX9_meal_29 : decode cX9_meal 29 = .ok (.aload_n 0, 1) := by decide +kernel
theorem dX9_meal_30 : decode cX9_meal 30 = .ok (.iload_n 1, 1) := by decide +kernel
theorem dX9_meal_31 : decode cX9_meal 31 = .ok (.iconst 4, 1) := by decide +kernel
theorem dX9_meal_32 : decode cX9_meal 32 = .ok (.invokevirtual 52, 3) := by decide +kernel
theorem dX9_meal_35 : decode cX9_meal 35 = .ok (.istore 4, 2) := by decide +kernel
theorem dX9_meal_37 : decode cX9_meal 37 = .ok (.iconst (-1), 1) := by decide +kernel
theorem dX9_meal_38 : decode cX9_meal 38 = .ok (.istore 5, 2) := by decide +kernel
theorem dX9_meal_40 : decode cX9_meal 40 = .ok (.iconst 0, 1) := by decide +kernel
theorem dX9_meal_41 : decode cX9_meal 41 = .ok (.istore 6, 2) := by decide +kernel
theorem dX9_meal_43 : decode cX9_meal 43 = .ok (.iload 5, 2) := by decide +kernel
theorem dX9_meal_45 : decode cX9_meal 45 = .ok (.bipush 99, 2) := by decide +kernel
theorem dX9_meal_47 : decode cX9_meal 47 = .ok (.if_icmp .ge 31, 3) := by decide +kernel
theorem dX9_meal_50 : decode cX9_meal 50 = .ok (.iload 6, 2) := by decide +kernel
theorem dX9_meal_52 : decode cX9_meal 52 = .ok (.ifCond .ne 26, 3) := by decide +kernel
theorem dX9_meal_55 : decode cX9_meal 55 = .ok (.iinc 5 1, 3) := by decide +kernel
theorem dX9_meal_58 : decode cX9_meal 58 = .ok (.aload_n 0, 1) := by decide +kernel
theorem dX9_meal_59 : decode cX9_meal 59 = .ok (.iload_n 1, 1) := by decide +kernel
theorem dX9_meal_60 : decode cX9_meal 60 = .ok (.iload 5, 2) := by decide +kernel
theorem dX9_meal_62 : decode cX9_meal 62 = .ok (.invokevirtual 105, 3) := by decide +kernel
theorem dX9_meal_65 : decode cX9_meal 65 = .ok (.aload_n 0, 1) := by decide +kernel
theorem dX9_meal_66 : decode cX9_meal 66 = .ok (.invokevirtual 132, 3) := by decide +kernel
theorem dX9_meal_69 : decode cX9_meal 69 = .ok (.iload_n 2, 1) := by decide +kernel
theorem dX9_meal_70 : decode cX9_meal 70 = .ok (.invokestatic 142, 3) := by decide +kernel
theorem dX9_meal_73 : decode cX9_meal 73 = .ok (.istore 6, 2) := by decide +kernel
theorem dX9_meal_75 : decode cX9_meal 75 = .ok (.goto (-32), 3) := by decide +kernel
theorem dX9_meal_78 : decode cX9_meal 78 = .ok (.aload_n 0, 1) := by decide +kernel
theorem dX9_meal_79 : decode cX9_meal 79 = .ok (.getfield 9, 3) := by decide +kernel
theorem dX9_meal_82 : decode cX9_meal 82 = .ok (.aload_n 0, 1) := by decide +kernel
theorem dX9_meal_83 : decode cX9_meal 83 = .ok (.iload_n 1, 1) := by decide +kernel
theorem dX9_meal_84 : decode cX9_meal 84 = .ok (.iconst 3, 1) := by decide +kernel
theorem dX9_meal_85 : decode cX9_meal 85 = .ok (.invokevirtual 85, 3) := by decide +kernel
theorem dX9_meal_88 : decode cX9_meal 88 = .ok (.iload_n 3, 1) := by decide +kernel
theorem dX9_meal_89 : decode cX9_meal 89 = .ok (.iastore, 1) := by decide +kernel
theorem dX9_meal_90 : decode cX9_meal 90 = .ok (.aload_n 0, 1) := by decide +kernel
theorem dX9_meal_91 : decode cX9_meal 91 = .ok (.getfield 9, 3) := by decide +kernel
theorem dX9_meal_94 : decode cX9_meal 94 = .ok (.aload_n 0, 1) := by decide +kernel
theorem dX9_meal_95 : decode cX9_meal 95 = .ok (.iload_n 1, 1) := by decide +kernel
theorem dX9_meal_96 : decode cX9_meal 96 = .ok (.iconst 4, 1) := by decide +kernel
theorem dX9_meal_97 : decode cX9_meal 97 = .ok (.invokevirtual 85, 3) := by decide +kernel
theorem dX9_meal_100 : decode cX9_meal 100 = .ok (.iload 4, 2) := by decide +kernel
theorem dX9_meal_102 : decode cX9_meal 102 = .ok (.iastore, 1) := by decide +kernel
theorem dX9_meal_103 : decode cX9_meal 103 = .ok (.iload 6, 2) := by decide +kernel
theorem dX9_meal_105 : decode cX9_meal 105 = .ok (.ifCond .eq 8, 3) := by decide +kernel
theorem dX9_meal_108 : decode cX9_meal 108 = .ok (.iload 5, 2) := by decide +kernel
theorem dX9_meal_110 : decode cX9_meal 110 = .ok (.goto 8, 3) := by decide +kernel
theorem dX9_meal_113 : decode cX9_meal 113 = .ok (.aload_n 0, 1) := by decide +kernel
theorem dX9_meal_114 : decode cX9_meal 114 = .ok (.iconst 3, 1) := by decide +kernel
theorem dX9_meal_115 : decode cX9_meal 115 = .ok (.invokevirtual 82, 3) := by decide +kernel
theorem dX9_meal_118 : decode cX9_meal 118 = .ok (.ireturn, 1) := by decide +kernel
set_option maxRecDepth 20000 in
theorem ggX9_doneWithout_X9_at : GoodIn wsX9_doneWithout wsX9_at := goodIn_r _ [6] (by decide +kernel) (by decide +kernel)
set_option maxRecDepth 20000 in
theorem gX9_doneWithout_X9_at : GoodIn wsX9_doneWithout (wsV RX9 85 RX9 yX9_at wsX9_at) := goodIn_app (goodIn_of _ (by decide +kernel)) ggX9_doneWithout_X9_at
set_option maxRecDepth 20000 in
theorem ggX9_doneWithout_X9_puts : GoodIn wsX9_doneWithout wsX9_puts := goodIn_r _ [10, 1, 61, 62, 63, 64, 65, 66, 67, 68, 69, 70, 71, 72, 73, 74, 75, 76, 77] (by decide +kernel) (by decide +kernel)
set_option maxRecDepth 20000 in
theorem gX9_doneWithout_X9_puts : GoodIn wsX9_doneWithout (wsV RX9 79 RX9 yX9_puts wsX9_puts) := goodIn_app (goodIn_of _ (by decide +kernel)) ggX9_doneWithout_X9_puts
set_option maxRecDepth 20000 in
theorem ggX9_doneWithout_X9_doneAhead : GoodIn wsX9_doneWithout wsX9_doneAhead := goodIn_r _ [14, 1, 15, 16, 17, 5, 18, 19, 20, 21, 22, 23, 24, 25, 26, 27, 28, 29, 30, 31, 32, 33, 34, 35, 36, 37, 38, 39, 40, 41, 42, 43, 44, 45, 46, 47, 48, 49, 50, 51, 52, 53, 54, 55, 56, 2, 3, 4, 6, 57, 58, 59, 60, 61, 62, 63, 64, 65, 66, 67, 68, 69, 70, 71, 72, 73, 74, 75, 76, 77] (by decide +kernel) (by decide +kernel)
set_option maxRecDepth 20000 in
theorem gX9_doneWithout_X9_doneAhead : GoodIn wsX9_doneWithout (wsV RX9 132 RX9 yX9_doneAhead wsX9_doneAhead) := goodIn_app (goodIn_of _ (by decide +kernel)) ggX9_doneWithout_X9_doneAhead
theorem dX9_doneWithout_0 : decode cX9_doneWithout 0 = .ok (.aload_n 0, 1) := by decide +kernel
theorem dX9_doneWithout_1 : decode cX9_doneWithout 1 = .ok (.aload_n 0, 1) := by decide +kernel
theorem dX9_doneWithout_2 : decode cX9_doneWithout 2 = .ok (.iload_n 1, 1) := by decide +kernel
theorem dX9_doneWithout_3 : decode cX9_doneWithout 3 = .ok (.iconst 0, 1) := by decide +kernel
theorem dX9_doneWithout_4 : decode cX9_doneWithout 4 = .ok (.invokevirtual 85, 3) := by decide +kernel
theorem dX9_doneWithout_7 : decode cX9_doneWithout 7 = .ok (.bipush 6, 2) := by decide +kernel
theorem dX9_doneWithout_9 : decode cX9_doneWithout 9 = .ok (.invokevirtual 79, 3) := by decide +kernel
theorem dX9_doneWithout_12 : decode cX9_doneWithout 12 = .ok (.istore_n 2, 1) := by decide +kernel
theorem dX9_doneWithout_13 : decode cX9_doneWithout 13 = .ok (.aload_n 0, 1) := by decide +kernel
theorem dX9_doneWithout_14 : decode cX9_doneWithout 14 = .ok (.invokevirtual 132, 3) := by decide +kernel
theorem dX9_doneWithout_17 : decode cX9_doneWithout 17 = .ok (.istore_n 3, 1) := by decide +kernel
theorem dX9_doneWithout_18 : decode cX9_doneWithout 18 = .ok (.aload_n 0, 1) := by decide +kernel
theorem dX9_doneWithout_19 : decode cX9_doneWithout 19 = .ok (.getfield 9, 3) := by decide +kernel
theorem dX9_doneWithout_22 : decode cX9_doneWithout 22 = .ok (.aload_n 0, 1) := by decide +kernel
theorem dX9_doneWithout_23 : decode cX9_doneWithout 23 = .ok (.iload_n 1, 1) := by decide +kernel
theorem dX9_doneWithout_24 : decode cX9_doneWithout 24 = .ok (.iconst 0, 1) := by decide +kernel
theorem dX9_doneWithout_25 : decode cX9_doneWithout 25 = .ok (.invokevirtual 85, 3) := by decide +kernel
theorem dX9_doneWithout_28 : decode cX9_doneWithout 28 = .ok (.iload_n 2, 1) := by decide +kernel
theorem dX9_doneWithout_29 : decode cX9_doneWithout 29 = .ok (.iastore, 1) := by decide +kernel
theorem dX9_doneWithout_30 : decode cX9_doneWithout 30 = .ok (.iload_n 3, 1) := by decide +kernel
theorem dX9_doneWithout_31 : decode cX9_doneWithout 31 = .ok (.ireturn, 1) := by decide +kernel
set_option maxRecDepth 20000 in
theorem ggX9_needed_X9_doneAhead : GoodIn wsX9_needed wsX9_doneAhead := goodIn_r _ [6, 1, 7, 8, 9, 5, 10, 11, 12, 13, 14, 15, 16, 17, 18, 19, 20, 21, 22, 23, 24, 25, 26, 27, 28, 29, 30, 31, 32, 33, 34, 35, 36, 37, 38, 39, 40, 41, 42, 43, 44, 45, 46, 47, 48, 49, 50, 51, 52, 53, 54, 55, 56, 74, 75, 76, 77, 78, 79, 80, 81, 82, 83, 84, 85, 86, 87, 88, 89, 90] (by decide +kernel) (by decide +kernel)
set_option maxRecDepth 20000 in
theorem gX9_needed_X9_doneAhead : GoodIn wsX9_needed (wsV RX9 132 RX9 yX9_doneAhead wsX9_doneAhead) := goodIn_app (goodIn_of _ (by decide +kernel)) ggX9_needed_X9_doneAhead
set_option maxRecDepth 20000 in
theorem ggX9_needed_X9_ones : GoodIn wsX9_needed wsX9_ones := goodIn_r _ [59] (by decide +kernel) (by decide +kernel)
set_option maxRecDepth 20000 in
theorem gX9_needed_X9_ones : GoodIn wsX9_needed (va_wsS RX9 158 yX9_ones wsX9_ones) := goodIn_app (goodIn_of _ (by decide +kernel)) ggX9_needed_X9_ones
set_option maxRecDepth 20000 in
theorem ggX9_needed_X9_doneWithout : GoodIn wsX9_needed wsX9_doneWithout := goodIn_r _ [63, 1, 49, 50, 51, 5, 52, 64, 65, 66, 67, 2, 3, 4, 6, 7, 8, 9, 10, 11, 12, 13, 14, 15, 16, 17, 18, 19, 20, 21, 22, 23, 24, 25, 26, 27, 28, 29, 30, 31, 32, 33, 34, 35, 36, 37, 38, 39, 40, 41, 42, 43, 44, 45, 46, 47, 48, 53, 54, 55, 56, 74, 75, 76, 77, 78, 79, 80, 81, 82, 83, 84, 85, 86, 87, 88, 89, 90] (by decide +kernel) (by decide +kernel)
set_option maxRecDepth 20000 in
theorem gX9_needed_X9_doneWithout : GoodIn wsX9_needed (wsV RX9 164 RX9 yX9_doneWithout wsX9_doneWithout) := goodIn_app (goodIn_of _ (by decide +kernel)) ggX9_needed_X9_doneWithout
set_option maxRecDepth 20000 in
theorem ggX9_needed_X9_no : GoodIn wsX9_needed wsX9_no := goodIn_r _ [71, 72, 73, 74, 75, 76, 77, 78, 79, 80, 81, 82, 83, 84, 85, 86, 87, 88, 89, 90] (by decide +kernel) (by decide +kernel)
set_option maxRecDepth 20000 in
theorem gX9_needed_X9_no : GoodIn wsX9_needed (wsV RX9 82 RX9 yX9_no wsX9_no) := goodIn_app (goodIn_of _ (by decide +kernel)) ggX9_needed_X9_no
theorem dX9_needed_0 : decode cX9_needed 0 = .ok (.aload_n 0, 1) := by decide +kernel
theorem dX9_needed_1 : decode cX9_needed 1 = .ok (.invokevirtual 132, 3) := by decide +kernel
theorem dX9_needed_4 : decode cX9_needed 4 = .ok (.invokestatic 158, 3) := by decide +kernel
theorem dX9_needed_7 : decode cX9_needed 7 = .ok (.istore_n 1, 1) := by decide +kernel
theorem dX9_needed_8 : decode cX9_needed 8 = .ok (.iconst (-1), 1) := by decide +kernel
theorem dX9_needed_9 : decode cX9_needed 9 = .ok (.istore_n 2, 1) := by decide +kernel
theorem dX9_needed_10 : decode cX9_needed 10 = .ok (.iload_n 1, 1) := by decide +kernel
theorem dX9_needed_11 : decode cX9_needed 11 = .ok (.istore_n 3, 1) := by decide +kernel
theorem dX9_needed_12 : decode cX9_needed 12 = .ok (.iconst 0, 1) := by decide +kernel
theorem dX9_needed_13 : decode cX9_needed 13 = .ok (.istore 4, 2) := by decide +kernel
theorem dX9_needed_15 : decode cX9_needed 15 = .ok (.iload 4, 2) := by decide +kernel
theorem dX9_needed_17 : decode cX9_needed 17 = .ok (.aload_n 0, 1) := by decide +kernel
theorem dX9_needed_18 : decode cX9_needed 18 = .ok (.getfield 9, 3) := by decide +kernel
theorem dX9_needed_21 : decode cX9_needed 21 = .ok (.iconst 1, 1) := by decide +kernel
theorem dX9_needed_22 : decode cX9_needed 22 = .ok (.iaload, 1) := by decide +kernel
theorem dX9_needed_23 : decode cX9_needed 23 = .ok (.if_icmp .ge 46, 3) := by decide +kernel
theorem dX9_needed_26 : decode cX9_needed 26 = .ok (.aload_n 0, 1) := by decide +kernel
theorem dX9_needed_27 : decode cX9_needed 27 = .ok (.iload 4, 2) := by decide +kernel
theorem dX9_needed_29 : decode cX9_needed 29 = .ok (.invokevirtual 164, 3) := by decide +kernel
theorem dX9_needed_32 : decode cX9_needed 32 = .ok (.invokestatic 158, 3) := by decide +kernel
theorem dX9_needed_35 : decode cX9_needed 35 = .ok (.istore 5, 2) := by decide +kernel
theorem dX9_needed_37 : decode cX9_needed 37 = .ok (.iload 5, 2) := by decide +kernel
theorem dX9_needed_39 : decode cX9_needed 39 = .ok (.iload_n 3, 1) := by decide +kernel
theorem dX9_needed_40 : decode cX9_needed 40 = .ok (.if_icmp .ge 8, 3) := by decide +kernel
theorem dX9_needed_43 : decode cX9_needed 43 = .ok (.iload 4, 2) := by decide +kernel
theorem dX9_needed_45 : decode cX9_needed 45 = .ok (.goto 4, 3) := by decide +kernel
theorem dX9_needed_48 : decode cX9_needed 48 = .ok (.iload_n 2, 1) := by decide +kernel
theorem dX9_needed_49 : decode cX9_needed 49 = .ok (.istore_n 2, 1) := by decide +kernel
theorem dX9_needed_50 : decode cX9_needed 50 = .ok (.iload 5, 2) := by decide +kernel
theorem dX9_needed_52 : decode cX9_needed 52 = .ok (.iload_n 3, 1) := by decide +kernel
theorem dX9_needed_53 : decode cX9_needed 53 = .ok (.if_icmp .ge 8, 3) := by decide +kernel
theorem dX9_needed_56 : decode cX9_needed 56 = .ok (.iload 5, 2) := by decide +kernel
theorem dX9_needed_58 : decode cX9_needed 58 = .ok (.goto 4, 3) := by decide +kernel
theorem dX9_needed_61 : decode cX9_needed 61 = .ok (.iload_n 3, 1) := by decide +kernel
theorem dX9_needed_62 : decode cX9_needed 62 = .ok (.istore_n 3, 1) := by decide +kernel
theorem dX9_needed_63 : decode cX9_needed 63 = .ok (.iinc 4 1, 3) := by decide +kernel
theorem dX9_needed_66 : decode cX9_needed 66 = .ok (.goto (-51), 3) := by decide +kernel
theorem dX9_needed_69 : decode cX9_needed 69 = .ok (.iload_n 2, 1) := by decide +kernel
theorem dX9_needed_70 : decode cX9_needed 70 = .ok (.ifCond .ge 11, 3) := by decide +kernel
theorem dX9_needed_73 : decode cX9_needed 73 = .ok (.aload_n 0, 1) := by decide +kernel
theorem dX9_needed_74 : decode cX9_needed 74 = .ok (.iconst 3, 1) := by decide +kernel
theorem dX9_needed_75 : decode cX9_needed 75 = .ok (.invokevirtual 82, 3) := by decide +kernel
theorem dX9_needed_78 : decode cX9_needed 78 = .ok (.goto 4, 3) := by decide +kernel
theorem dX9_needed_81 : decode cX9_needed 81 = .ok (.iload_n 2, 1) := by decide +kernel
theorem dX9_needed_82 : decode cX9_needed 82 = .ok (.ireturn, 1) := by decide +kernel
set_option maxRecDepth 20000 in
theorem ggX9_whom_X9_isTask : GoodIn wsX9_whom wsX9_isTask := goodIn_r _ [6, 1, 7, 8, 5, 9, 81, 82, 83, 84, 85, 86, 87, 88, 89, 90, 91, 92, 93, 94, 95, 96, 97] (by decide +kernel) (by decide +kernel)
set_option maxRecDepth 20000 in
theorem gX9_whom_X9_isTask : GoodIn wsX9_whom (wsV RX9 129 RX9 yX9_isTask wsX9_isTask) := goodIn_app (goodIn_of _ (by decide +kernel)) ggX9_whom_X9_isTask
set_option maxRecDepth 20000 in
theorem ggX9_whom_X9_no : GoodIn wsX9_whom wsX9_no := goodIn_r _ [13, 14, 15, 81, 82, 83, 84, 85, 86, 87, 88, 89, 90, 91, 92, 93, 94, 95, 96, 97] (by decide +kernel) (by decide +kernel)
set_option maxRecDepth 20000 in
theorem gX9_whom_X9_no : GoodIn wsX9_whom (wsV RX9 82 RX9 yX9_no wsX9_no) := goodIn_app (goodIn_of _ (by decide +kernel)) ggX9_whom_X9_no
set_option maxRecDepth 20000 in
theorem ggX9_whom_X9_doneAhead : GoodIn wsX9_whom wsX9_doneAhead := goodIn_r _ [19, 1, 20, 21, 22, 5, 23, 24, 25, 26, 27, 28, 29, 30, 31, 32, 33, 34, 35, 36, 37, 38, 39, 40, 41, 42, 43, 44, 45, 46, 47, 48, 49, 50, 51, 52, 53, 54, 55, 56, 57, 58, 59, 60, 61, 62, 63, 64, 65, 66, 67, 68, 69, 81, 82, 83, 84, 85, 86, 87, 88, 89, 90, 91, 92, 93, 94, 95, 96, 97] (by decide +kernel) (by decide +kernel)
set_option maxRecDepth 20000 in
theorem gX9_whom_X9_doneAhead : GoodIn wsX9_whom (wsV RX9 132 RX9 yX9_doneAhead wsX9_doneAhead) := goodIn_app (goodIn_of _ (by decide +kernel)) ggX9_whom_X9_doneAhead
set_option maxRecDepth 20000 in
theorem ggX9_whom_X9_has : GoodIn wsX9_whom wsX9_has := goodIn_r _ [72] (by decide +kernel) (by decide +kernel)
set_option maxRecDepth 20000 in
theorem gX9_whom_X9_has : GoodIn wsX9_whom (va_wsS RX9 142 yX9_has wsX9_has) := goodIn_app (goodIn_of _ (by decide +kernel)) ggX9_whom_X9_has
set_option maxRecDepth 20000 in
theorem ggX9_whom_X9_doneWithout : GoodIn wsX9_whom wsX9_doneWithout := goodIn_r _ [76, 1, 62, 63, 64, 5, 65, 77, 78, 79, 80, 16, 17, 18, 19, 20, 21, 22, 23, 24, 25, 26, 27, 28, 29, 30, 31, 32, 33, 34, 35, 36, 37, 38, 39, 40, 41, 42, 43, 44, 45, 46, 47, 48, 49, 50, 51, 52, 53, 54, 55, 56, 57, 58, 59, 60, 61, 66, 67, 68, 69, 81, 82, 83, 84, 85, 86, 87, 88, 89, 90, 91, 92, 93, 94, 95, 96, 97] (by decide +kernel) (by decide +kernel)
set_option maxRecDepth 20000 in
theorem gX9_whom_X9_doneWithout : GoodIn wsX9_whom (wsV RX9 164 RX9 yX9_doneWithout wsX9_doneWithout) := goodIn_app (goodIn_of _ (by decide +kernel)) ggX9_whom_X9_doneWithout
theorem dX9_whom_0 : decode cX9_whom 0 = .ok (.aload_n 0, 1) := by decide +kernel
theorem dX9_whom_1 : decode cX9_whom 1 = .ok (.iload_n 1, 1) := by decide +kernel
theorem dX9_whom_2 : decode cX9_whom 2 = .ok (.invokevirtual 129, 3) := by decide +kernel
theorem dX9_whom_5 : decode cX9_whom 5 = .ok (.ifCond .ne 9, 3) := by decide +kernel
theorem dX9_whom_8 : decode cX9_whom 8 = .ok (.aload_n 0, 1) := by decide +kernel
theorem dX9_whom_9 : decode cX9_whom 9 = .ok (.iconst 0, 1) := by decide +kernel
theorem dX9_whom_10 : decode cX9_whom 10 = .ok (.invokevirtual 82, 3) := by decide +kernel
theorem dX9_whom_13 : decode cX9_whom 13 = .ok (.ireturn, 1) := by decide +kernel
theorem dX9_whom_14 : decode cX9_whom 14 = .ok (.aload_n 0, 1) := by decide +kernel
theorem dX9_whom_15 : decode cX9_whom 15 = .ok (.invokevirtual 132, 3) := by decide +kernel
theorem dX9_whom_18 : decode cX9_whom 18 = .ok (.iload_n 1, 1) := by decide +kernel
theorem dX9_whom_19 : decode cX9_whom 19 = .ok (.invokestatic 142, 3) := by decide +kernel
theorem dX9_whom_22 : decode cX9_whom 22 = .ok (.ifCond .ne 5, 3) := by decide +kernel
theorem dX9_whom_25 : decode cX9_whom 25 = .ok (.iconst 0, 1) := by decide +kernel
theorem dX9_whom_26 : decode cX9_whom 26 = .ok (.ireturn, 1) := by decide +kernel
theorem dX9_whom_27 : decode cX9_whom 27 = .ok (.iconst 0, 1) := by decide +kernel
theorem dX9_whom_28 : decode cX9_whom 28 = .ok (.istore_n 2, 1) := by decide +kernel
theorem dX9_whom_29 : decode cX9_whom 29 = .ok (.iconst 0, 1) := by decide +kernel
theorem dX9_whom_30 : decode cX9_whom 30 = .ok (.istore_n 3, 1) := by decide +kernel
theorem dX9_whom_31 : decode cX9_whom 31 = .ok (.iload_n 3, 1) := by decide +kernel
theorem dX9_whom_32 : decode cX9_whom 32 = .ok (.aload_n 0, 1) := by decide +kernel
theorem dX9_whom_33 : decode cX9_whom 33 = .ok (.getfield 9, 3) := by decide +kernel
theorem dX9_whom_36 : decode cX9_whom 36 = .ok (.iconst 1, 1) := by decide +kernel
theorem dX9_whom_37 : decode cX9_whom 37 = .ok (.iaload, 1) := by decide +kernel
theorem dX9_whom_38 : decode cX9_whom 38 = .ok (.if_icmp .ge 31, 3) := by decide +kernel
theorem dX9_whom_41 : decode cX9_whom 41 = .ok (.iload_n 2, 1) := by decide +kernel
theorem dX9_whom_42 : decode cX9_whom 42 = .ok (.aload_n 0, 1) := by decide +kernel
theorem dX9_whom_43 : decode cX9_whom 43 = .ok (.iload_n 3, 1) := by decide +kernel
theorem dX9_whom_44 : decode cX9_whom 44 = .ok (.invokevirtual 164, 3) := by decide +kernel
theorem dX9_whom_47 : decode cX9_whom 47 = .ok (.iload_n 1, 1) := by decide +kernel
theorem dX9_whom_48 : decode cX9_whom 48 = .ok (.invokestatic 142, 3) := by decide +kernel
theorem dX9_whom_51 : decode cX9_whom 51 = .ok (.ifCond .eq 7, 3) := by decide +kernel
theorem dX9_whom_54 : decode cX9_whom 54 = .ok (.iconst 0, 1) := by decide +kernel
theorem dX9_whom_55 : decode cX9_whom 55 = .ok (.goto 6, 3) := by decide +kernel
theorem dX9_whom_58 : decode cX9_whom 58 = .ok (.iconst 1, 1) := by decide +kernel
theorem dX9_whom_59 : decode cX9_whom 59 = .ok (.iload_n 3, 1) := by decide +kernel
theorem dX9_whom_60 : decode cX9_whom 60 = .ok (.ishl, 1) := by decide +kernel
theorem dX9_whom_61 : decode cX9_whom 61 = .ok (.ior, 1) := by decide +kernel
theorem dX9_whom_62 : decode cX9_whom 62 = .ok (.istore_n 2, 1) := by decide +kernel
theorem dX9_whom_63 : decode cX9_whom 63 = .ok (.iinc 3 1, 3) := by decide +kernel
theorem dX9_whom_66 : decode cX9_whom 66 = .ok (.goto (-35), 3) := by decide +kernel
theorem dX9_whom_69 : decode cX9_whom 69 = .ok (.iload_n 2, 1) := by decide +kernel
theorem dX9_whom_70 : decode cX9_whom 70 = .ok (.ireturn, 1) := by decide +kernel
set_option maxRecDepth 20000 in
theorem ggX9_bestOf_X9_manyWith : GoodIn wsX9_bestOf wsX9_manyWith := goodIn_r _ [5, 6, 7, 8, 9, 4, 10, 11, 12, 13, 14, 15, 16, 17, 18, 19, 20, 21, 22, 23, 24, 25, 26, 27, 28, 29, 30, 31, 32, 33, 34, 35, 36, 37, 38, 39, 40, 41, 42, 43, 44, 45, 46, 47, 48, 49, 50, 51, 52, 53, 54, 55, 56, 57, 58, 59, 60, 61, 62, 63, 64, 65, 66, 67, 68, 69, 70, 71, 72, 73, 74, 75, 76, 77, 78, 79, 80, 81, 82, 83, 84] (by decide +kernel) (by decide +kernel)
set_option maxRecDepth 20000 in
theorem gX9_bestOf_X9_manyWith : GoodIn wsX9_bestOf (wsV RX9 161 RX9 yX9_manyWith wsX9_manyWith) := goodIn_app (goodIn_of _ (by decide +kernel)) ggX9_bestOf_X9_manyWith
theorem dX9_bestOf_0 : decode cX9_bestOf 0 = .ok (.iconst 0, 1) := by decide +kernel
theorem dX9_bestOf_1 : decode cX9_bestOf 1 = .ok (.istore_n 3, 1) := by decide +kernel
theorem dX9_bestOf_2 : decode cX9_bestOf 2 = .ok (.iconst (-1), 1) := by decide +kernel
theorem dX9_bestOf_3 : decode cX9_bestOf 3 = .ok (.istore 4, 2) := by decide +kernel
theorem dX9_bestOf_5 : decode cX9_bestOf 5 = .ok (.iconst 0, 1) := by decide +kernel
theorem dX9_bestOf_6 : decode cX9_bestOf 6 = .ok (.istore 5, 2) := by decide +kernel
theorem dX9_bestOf_8 : decode cX9_bestOf 8 = .ok (.iload 5, 2) := by decide +kernel
theorem dX9_bestOf_10 : decode cX9_bestOf 10 = .ok (.iload_n 2, 1) := by decide +kernel
theorem dX9_bestOf_11 : decode cX9_bestOf 11 = .ok (.if_icmp .ge 48, 3) := by decide +kernel
theorem dX9_bestOf_14 : decode cX9_bestOf 14 = .ok (.aload_n 0, 1) := by decide +kernel
theorem dX9_bestOf_15 : decode cX9_bestOf 15 = .ok (.iload_n 1, 1) := by decide +kernel
theorem dX9_bestOf_16 : decode cX9_bestOf 16 = .ok (.iload 5, 2) := by decide +kernel
theorem dX9_bestOf_18 : decode cX9_bestOf 18 = .ok (.invokevirtual 161, 3) := by decide +kernel
theorem dX9_bestOf_21 : decode cX9_bestOf 21 = .ok (.istore 6, 2) := by decide +kernel
theorem dX9_bestOf_23 : decode cX9_bestOf 23 = .ok (.iload 6, 2) := by decide +kernel
theorem dX9_bestOf_25 : decode cX9_bestOf 25 = .ok (.iload 4, 2) := by decide +kernel
theorem dX9_bestOf_27 : decode cX9_bestOf 27 = .ok (.if_icmp .le 8, 3) := by decide +kernel
theorem dX9_bestOf_30 : decode cX9_bestOf 30 = .ok (.iload 5, 2) := by decide +kernel
theorem dX9_bestOf_32 : decode cX9_bestOf 32 = .ok (.goto 4, 3) := by decide +kernel
theorem dX9_bestOf_35 : decode cX9_bestOf 35 = .ok (.iload_n 3, 1) := by decide +kernel
theorem dX9_bestOf_36 : decode cX9_bestOf 36 = .ok (.istore_n 3, 1) := by decide +kernel
theorem dX9_bestOf_37 : decode cX9_bestOf 37 = .ok (.iload 6, 2) := by decide +kernel
theorem dX9_bestOf_39 : decode cX9_bestOf 39 = .ok (.iload 4, 2) := by decide +kernel
theorem dX9_bestOf_41 : decode cX9_bestOf 41 = .ok (.if_icmp .le 8, 3) := by decide +kernel
theorem dX9_bestOf_44 : decode cX9_bestOf 44 = .ok (.iload 6, 2) := by decide +kernel
theorem dX9_bestOf_46 : decode cX9_bestOf 46 = .ok (.goto 5, 3) := by decide +kernel
theorem dX9_bestOf_49 : decode cX9_bestOf 49 = .ok (.iload 4, 2) := by decide +kernel
theorem dX9_bestOf_51 : decode cX9_bestOf 51 = .ok (.istore 4, 2) := by decide +kernel
theorem dX9_bestOf_53 : decode cX9_bestOf 53 = .ok (.iinc 5 1, 3) := by decide +kernel
theorem dX9_bestOf_56 : decode cX9_bestOf 56 = .ok (.goto (-48), 3) := by decide +kernel
theorem dX9_bestOf_59 : decode cX9_bestOf 59 = .ok (.iload_n 3, 1) := by decide +kernel
theorem dX9_bestOf_60 : decode cX9_bestOf 60 = .ok (.ireturn, 1) := by decide +kernel
set_option maxRecDepth 20000 in
theorem ggX9_goal_X9_isBeing : GoodIn wsX9_goal wsX9_isBeing := goodIn_r _ [5, 6, 7, 8, 4, 9, 85, 86, 87, 88, 89, 90, 91, 92, 93, 94, 95, 96, 97, 98, 99, 100, 101] (by decide +kernel) (by decide +kernel)
set_option maxRecDepth 20000 in
theorem gX9_goal_X9_isBeing : GoodIn wsX9_goal (wsV RX9 95 RX9 yX9_isBeing wsX9_isBeing) := goodIn_app (goodIn_of _ (by decide +kernel)) ggX9_goal_X9_isBeing
set_option maxRecDepth 20000 in
theorem ggX9_goal_X9_at : GoodIn wsX9_goal wsX9_at := goodIn_r _ [13] (by decide +kernel) (by decide +kernel)
set_option maxRecDepth 20000 in
theorem gX9_goal_X9_at : GoodIn wsX9_goal (wsV RX9 85 RX9 yX9_at wsX9_at) := goodIn_app (goodIn_of _ (by decide +kernel)) ggX9_goal_X9_at
set_option maxRecDepth 20000 in
theorem ggX9_goal_X9_bestOf : GoodIn wsX9_goal wsX9_bestOf := goodIn_r _ [17, 18, 19, 20, 4, 21, 6, 22, 23, 24, 25, 26, 27, 28, 29, 30, 31, 32, 33, 34, 35, 36, 37, 38, 39, 40, 41, 42, 43, 44, 45, 46, 47, 48, 49, 50, 51, 52, 53, 54, 55, 56, 57, 58, 59, 60, 61, 62, 63, 64, 65, 66, 67, 68, 69, 70, 71, 10, 11, 12, 13, 72, 73, 74, 75, 76, 77, 78, 85, 86, 87, 88, 89, 90, 91, 92, 93, 94, 95, 96, 97, 98, 99, 100, 101] (by decide +kernel) (by decide +kernel)
set_option maxRecDepth 20000 in
theorem gX9_goal_X9_bestOf : GoodIn wsX9_goal (wsV RX9 167 RX9 yX9_bestOf wsX9_bestOf) := goodIn_app (goodIn_of _ (by decide +kernel)) ggX9_goal_X9_bestOf
set_option maxRecDepth 20000 in
theorem ggX9_goal_X9_no : GoodIn wsX9_goal wsX9_no := goodIn_r _ [82, 83, 84, 85, 86, 87, 88, 89, 90, 91, 92, 93, 94, 95, 96, 97, 98, 99, 100, 101] (by decide +kernel) (by decide +kernel)
set_option maxRecDepth 20000 in
theorem gX9_goal_X9_no : GoodIn wsX9_goal (wsV RX9 82 RX9 yX9_no wsX9_no) := goodIn_app (goodIn_of _ (by decide +kernel)) ggX9_goal_X9_no
theorem dX9_goal_0 : decode cX9_goal 0 = .ok (.aload_n 0, 1) := by decide +kernel
theorem dX9_goal_1 : decode cX9_goal 1 = .ok (.iload_n 1, 1) := by decide +kernel
theorem dX9_goal_2 : decode cX9_goal 2 = .ok (.invokevirtual 95, 3) := by decide +kernel
theorem dX9_goal_5 : decode cX9_goal 5 = .ok (.ifCond .eq 18, 3) := by decide +kernel
theorem dX9_goal_8 : decode cX9_goal 8 = .ok (.aload_n 0, 1) := by decide +kernel
theorem dX9_goal_9 : decode cX9_goal 9 = .ok (.aload_n 0, 1) := by decide +kernel
theorem dX9_goal_10 : decode cX9_goal 10 = .ok (.iload_n 1, 1) := by decide +kernel
theorem dX9_goal_11 : decode cX9_goal 11 = .ok (.iconst 2, 1) := by decide +kernel
theorem dX9_goal_12 : decode cX9_goal 12 = .ok (.invokevirtual 85, 3) := by decide +kernel
theorem dX9_goal_15 : decode cX9_goal 15 = .ok (.bipush 16, 2) := by decide +kernel
theorem dX9_goal_17 : decode cX9_goal 17 = .ok (.invokevirtual 167, 3) := by decide +kernel
theorem dX9_goal_20 : decode cX9_goal 20 = .ok (.goto 8, 3) := by decide +kernel
theorem dX9_goal_23 : decode cX9_goal 23 = .ok (.aload_n 0, 1) := by decide +kernel
theorem dX9_goal_24 : decode cX9_goal 24 = .ok (.iconst 0, 1) := by decide +kernel
theorem dX9_goal_25 : decode cX9_goal 25 = .ok (.invokevirtual 82, 3) := by decide +kernel
theorem dX9_goal_28 : decode cX9_goal 28 = .ok (.ireturn, 1) := by decide +kernel
set_option maxRecDepth 20000 in
theorem ggX9_kind_X9_isBeing : GoodIn wsX9_kind wsX9_isBeing := goodIn_r _ [5, 6, 7, 8, 4, 9, 85, 86, 87, 88, 89, 90, 91, 92, 93, 94, 95, 96, 97, 98, 99, 100, 101] (by decide +kernel) (by decide +kernel)
set_option maxRecDepth 20000 in
theorem gX9_kind_X9_isBeing : GoodIn wsX9_kind (wsV RX9 95 RX9 yX9_isBeing wsX9_isBeing) := goodIn_app (goodIn_of _ (by decide +kernel)) ggX9_kind_X9_isBeing
set_option maxRecDepth 20000 in
theorem ggX9_kind_X9_at : GoodIn wsX9_kind wsX9_at := goodIn_r _ [13] (by decide +kernel) (by decide +kernel)
set_option maxRecDepth 20000 in
theorem gX9_kind_X9_at : GoodIn wsX9_kind (wsV RX9 85 RX9 yX9_at wsX9_at) := goodIn_app (goodIn_of _ (by decide +kernel)) ggX9_kind_X9_at
set_option maxRecDepth 20000 in
theorem ggX9_kind_X9_bestOf : GoodIn wsX9_kind wsX9_bestOf := goodIn_r _ [17, 18, 19, 20, 4, 21, 6, 22, 23, 24, 25, 26, 27, 28, 29, 30, 31, 32, 33, 34, 35, 36, 37, 38, 39, 40, 41, 42, 43, 44, 45, 46, 47, 48, 49, 50, 51, 52, 53, 54, 55, 56, 57, 58, 59, 60, 61, 62, 63, 64, 65, 66, 67, 68, 69, 70, 71, 10, 11, 12, 13, 72, 73, 74, 75, 76, 77, 78, 85, 86, 87, 88, 89, 90, 91, 92, 93, 94, 95, 96, 97, 98, 99, 100, 101] (by decide +kernel) (by decide +kernel)
set_option maxRecDepth 20000 in
theorem gX9_kind_X9_bestOf : GoodIn wsX9_kind (wsV RX9 167 RX9 yX9_bestOf wsX9_bestOf) := goodIn_app (goodIn_of _ (by decide +kernel)) ggX9_kind_X9_bestOf
set_option maxRecDepth 20000 in
theorem ggX9_kind_X9_no : GoodIn wsX9_kind wsX9_no := goodIn_r _ [82, 83, 84, 85, 86, 87, 88, 89, 90, 91, 92, 93, 94, 95, 96, 97, 98, 99, 100, 101] (by decide +kernel) (by decide +kernel)
set_option maxRecDepth 20000 in
theorem gX9_kind_X9_no : GoodIn wsX9_kind (wsV RX9 82 RX9 yX9_no wsX9_no) := goodIn_app (goodIn_of _ (by decide +kernel)) ggX9_kind_X9_no
theorem dX9_kind_0 : decode cX9_kind 0 = .ok (.aload_n 0, 1) := by decide +kernel
theorem dX9_kind_1 : decode cX9_kind 1 = .ok (.iload_n 1, 1) := by decide +kernel
theorem dX9_kind_2 : decode cX9_kind 2 = .ok (.invokevirtual 95, 3) := by decide +kernel
theorem dX9_kind_5 : decode cX9_kind 5 = .ok (.ifCond .eq 18, 3) := by decide +kernel
theorem dX9_kind_8 : decode cX9_kind 8 = .ok (.aload_n 0, 1) := by decide +kernel
theorem dX9_kind_9 : decode cX9_kind 9 = .ok (.aload_n 0, 1) := by decide +kernel
theorem dX9_kind_10 : decode cX9_kind 10 = .ok (.iload_n 1, 1) := by decide +kernel
theorem dX9_kind_11 : decode cX9_kind 11 = .ok (.iconst 0, 1) := by decide +kernel
theorem dX9_kind_12 : decode cX9_kind 12 = .ok (.invokevirtual 85, 3) := by decide +kernel
theorem dX9_kind_15 : decode cX9_kind 15 = .ok (.bipush 6, 2) := by decide +kernel
theorem dX9_kind_17 : decode cX9_kind 17 = .ok (.invokevirtual 167, 3) := by decide +kernel
theorem dX9_kind_20 : decode cX9_kind 20 = .ok (.goto 8, 3) := by decide +kernel
theorem dX9_kind_23 : decode cX9_kind 23 = .ok (.aload_n 0, 1) := by decide +kernel
theorem dX9_kind_24 : decode cX9_kind 24 = .ok (.iconst 0, 1) := by decide +kernel
theorem dX9_kind_25 : decode cX9_kind 25 = .ok (.invokevirtual 82, 3) := by decide +kernel
theorem dX9_kind_28 : decode cX9_kind 28 = .ok (.ireturn, 1) := by decide +kernel
set_option maxRecDepth 20000 in
theorem ggX9_fasted_X9_isBeing : GoodIn wsX9_fasted wsX9_isBeing := goodIn_r _ [6, 1, 7, 8, 5, 9, 49, 50, 51, 52, 53, 54, 55, 56, 57, 58, 59, 60, 61, 62, 63, 64, 65] (by decide +kernel) (by decide +kernel)
set_option maxRecDepth 20000 in
theorem gX9_fasted_X9_isBeing : GoodIn wsX9_fasted (wsV RX9 95 RX9 yX9_isBeing wsX9_isBeing) := goodIn_app (goodIn_of _ (by decide +kernel)) ggX9_fasted_X9_isBeing
set_option maxRecDepth 20000 in
theorem ggX9_fasted_X9_isPlace : GoodIn wsX9_fasted wsX9_isPlace := goodIn_r _ [12, 7, 8, 5, 9] (by decide +kernel) (by decide +kernel)
set_option maxRecDepth 20000 in
theorem gX9_fasted_X9_isPlace : GoodIn wsX9_fasted (va_wsS RX9 76 yX9_isPlace wsX9_isPlace) := goodIn_app (goodIn_of _ (by decide +kernel)) ggX9_fasted_X9_isPlace
set_option maxRecDepth 20000 in
theorem ggX9_fasted_X9_no : GoodIn wsX9_fasted wsX9_no := goodIn_r _ [16, 17, 18, 49, 50, 51, 52, 53, 54, 55, 56, 57, 58, 59, 60, 61, 62, 63, 64, 65] (by decide +kernel) (by decide +kernel)
set_option maxRecDepth 20000 in
theorem gX9_fasted_X9_no : GoodIn wsX9_fasted (wsV RX9 82 RX9 yX9_no wsX9_no) := goodIn_app (goodIn_of _ (by decide +kernel)) ggX9_fasted_X9_no
set_option maxRecDepth 20000 in
theorem ggX9_fasted_X9_is : GoodIn wsX9_fasted wsX9_is := goodIn_r _ [22, 1, 49, 50, 51, 52, 53, 54, 55, 56, 57, 58, 59, 60, 61, 62, 63, 64, 65] (by decide +kernel) (by decide +kernel)
set_option maxRecDepth 20000 in
theorem gX9_fasted_X9_is : GoodIn wsX9_fasted (wsV RX9 52 RX9 yX9_is wsX9_is) := goodIn_app (goodIn_of _ (by decide +kernel)) ggX9_fasted_X9_is
set_option maxRecDepth 20000 in
theorem ggX9_fasted_X9_at : GoodIn wsX9_fasted wsX9_at := goodIn_r _ [26] (by decide +kernel) (by decide +kernel)
set_option maxRecDepth 20000 in
theorem gX9_fasted_X9_at : GoodIn wsX9_fasted (wsV RX9 85 RX9 yX9_at wsX9_at) := goodIn_app (goodIn_of _ (by decide +kernel)) ggX9_fasted_X9_at
set_option maxRecDepth 20000 in
theorem ggX9_fasted_X9_lightOf : GoodIn wsX9_fasted wsX9_lightOf := goodIn_r _ [30, 1, 31, 32, 33, 5, 34, 35, 36, 37, 38, 19, 20, 21, 22, 39, 40, 41, 42, 43, 44, 45, 46, 47, 48, 49, 50, 51, 52, 53, 54, 55, 56, 57, 58, 59, 60, 61, 62, 63, 64, 65] (by decide +kernel) (by decide +kernel)
set_option maxRecDepth 20000 in
theorem gX9_fasted_X9_lightOf : GoodIn wsX9_fasted (wsV RX9 73 RX9 yX9_lightOf wsX9_lightOf) := goodIn_app (goodIn_of _ (by decide +kernel)) ggX9_fasted_X9_lightOf
theorem dX9_fasted_0 : decode cX9_fasted 0 = .ok (.aload_n 0, 1) := by decide +kernel
theorem dX9_fasted_1 : decode cX9_fasted 1 = .ok (.iload_n 1, 1) := by decide +kernel
theorem dX9_fasted_2 : decode cX9_fasted 2 = .ok (.invokevirtual 95, 3) := by decide +kernel
theorem dX9_fasted_5 : decode cX9_fasted 5 = .ok (.ifCond .eq 10, 3) := by decide +kernel
theorem dX9_fasted_8 : decode cX9_fasted 8 = .ok (.iload_n 2, 1) := by decide +kernel
theorem dX9_fasted_9 : decode cX9_fasted 9 = .ok (.invokestatic 76, 3) := by decide +kernel
theorem dX9_fasted_12 : decode cX9_fasted 12 = .ok (.ifCond .ne 9, 3) := by decide +kernel
theorem dX9_fasted_15 : decode cX9_fasted 15 = .ok (.aload_n 0, 1) := by decide +kernel
theorem dX9_fasted_16 : decode cX9_fasted 16 = .ok (.iconst 0, 1) := by decide +kernel
theorem dX9_fasted_17 : decode cX9_fasted 17 = .ok (.invokevirtual 82, 3) := by decide +kernel
theorem dX9_fasted_20 : decode cX9_fasted 20 = .ok (.ireturn, 1) := by decide +kernel
theorem dX9_fasted_21 : decode cX9_fasted 21 = .ok (.aload_n 0, 1) := by decide +kernel
theorem dX9_fasted_22 : decode cX9_fasted 22 = .ok (.iload_n 1, 1) := by decide +kernel
theorem dX9_fasted_23 : decode cX9_fasted 23 = .ok (.iconst 4, 1) := by decide +kernel
theorem dX9_fasted_24 : decode cX9_fasted 24 = .ok (.invokevirtual 52, 3) := by decide +kernel
theorem dX9_fasted_27 : decode cX9_fasted 27 = .ok (.istore 4, 2) := by decide +kernel
theorem dX9_fasted_29 : decode cX9_fasted 29 = .ok (.iconst (-1), 1) := by decide +kernel
theorem dX9_fasted_30 : decode cX9_fasted 30 = .ok (.istore 5, 2) := by decide +kernel
theorem dX9_fasted_32 : decode cX9_fasted 32 = .ok (.bipush 99, 2) := by decide +kernel
theorem dX9_fasted_34 : decode cX9_fasted 34 = .ok (.istore 6, 2) := by decide +kernel
theorem dX9_fasted_36 : decode cX9_fasted 36 = .ok (.iload 6, 2) := by decide +kernel
theorem dX9_fasted_38 : decode cX9_fasted 38 = .ok (.ifCond .lt 40, 3) := by decide +kernel
theorem dX9_fasted_41 : decode cX9_fasted 41 = .ok (.aload_n 0, 1) := by decide +kernel
theorem dX9_fasted_42 : decode cX9_fasted 42 = .ok (.getfield 9, 3) := by decide +kernel
theorem dX9_fasted_45 : decode cX9_fasted 45 = .ok (.aload_n 0, 1) := by decide +kernel
theorem dX9_fasted_46 : decode cX9_fasted 46 = .ok (.iload_n 1, 1) := by decide +kernel
theorem dX9_fasted_47 : decode cX9_fasted 47 = .ok (.iconst 4, 1) := by decide +kernel
theorem dX9_fasted_48 : decode cX9_fasted 48 = .ok (.invokevirtual 85, 3) := by decide +kernel
theorem dX9_fasted_51 : decode cX9_fasted 51 = .ok (.iload 6, 2) := by decide +kernel
theorem dX9_fasted_53 : decode cX9_fasted 53 = .ok (.iastore, 1) := by decide +kernel
theorem dX9_fasted_54 : decode cX9_fasted 54 = .ok (.aload_n 0, 1) := by decide +kernel
theorem dX9_fasted_55 : decode cX9_fasted 55 = .ok (.iload_n 2, 1) := by decide +kernel
theorem dX9_fasted_56 : decode cX9_fasted 56 = .ok (.invokevirtual 73, 3) := by decide +kernel
theorem dX9_fasted_59 : decode cX9_fasted 59 = .ok (.iload_n 3, 1) := by decide +kernel
theorem dX9_fasted_60 : decode cX9_fasted 60 = .ok (.if_icmp .ne 8, 3) := by decide +kernel
theorem dX9_fasted_63 : decode cX9_fasted 63 = .ok (.iload 6, 2) := by decide +kernel
theorem dX9_fasted_65 : decode cX9_fasted 65 = .ok (.goto 5, 3) := by decide +kernel
theorem dX9_fasted_68 : decode cX9_fasted 68 = .ok (.iload 5, 2) := by decide +kernel
theorem dX9_fasted_70 : decode cX9_fasted 70 = .ok (.istore 5, 2) := by decide +kernel
theorem dX9_fasted_72 : decode cX9_fasted 72 = .ok (.iinc 6 (-1), 3) := by decide +kernel
theorem dX9_fasted_75 : decode cX9_fasted 75 = .ok (.goto (-39), 3) := by decide +kernel
theorem dX9_fasted_78 : decode cX9_fasted 78 = .ok (.aload_n 0, 1) := by decide +kernel
theorem dX9_fasted_79 : decode cX9_fasted 79 = .ok (.getfield 9, 3) := by decide +kernel
theorem dX9_fasted_82 : decode cX9_fasted 82 = .ok (.aload_n 0, 1) := by decide +kernel
theorem dX9_fasted_83 : decode cX9_fasted 83 = .ok (.iload_n 1, 1) := by decide +kernel
theorem dX9_fasted_84 : decode cX9_fasted 84 = .ok (.iconst 4, 1) := by decide +kernel
theorem dX9_fasted_85 : decode cX9_fasted 85 = .ok (.invokevirtual 85, 3) := by decide +kernel
theorem dX9_fasted_88 : decode cX9_fasted 88 = .ok (.iload 4, 2) := by decide +kernel
theorem dX9_fasted_90 : decode cX9_fasted 90 = .ok (.iastore, 1) := by decide +kernel
theorem dX9_fasted_91 : decode cX9_fasted 91 = .ok (.iload 5, 2) := by decide +kernel
theorem dX9_fasted_93 : decode cX9_fasted 93 = .ok (.ifCond .ge 11, 3) := by decide +kernel
theorem dX9_fasted_96 : decode cX9_fasted 96 = .ok (.aload_n 0, 1) := by decide +kernel
theorem dX9_fasted_97 : decode cX9_fasted 97 = .ok (.iconst 3, 1) := by decide +kernel
theorem dX9_fasted_98 : decode cX9_fasted 98 = .ok (.invokevirtual 82, 3) := by decide +kernel
theorem dX9_fasted_101 : decode cX9_fasted 101 = .ok (.goto 5, 3) := by decide +kernel
theorem dX9_fasted_104 : decode cX9_fasted 104 = .ok (.iload 5, 2) := by decide +kernel
theorem dX9_fasted_106 : decode cX9_fasted 106 = .ok (.ireturn, 1) := by decide +kernel
set_option maxRecDepth 20000 in
theorem ggX9_feed_X9_in : GoodIn wsX9_feed wsX9_in := goodIn_r _ [6] (by decide +kernel) (by decide +kernel)
set_option maxRecDepth 20000 in
theorem gX9_feed_X9_in : GoodIn wsX9_feed (va_wsS RX9 48 yX9_in wsX9_in) := goodIn_app (goodIn_of _ (by decide +kernel)) ggX9_feed_X9_in
set_option maxRecDepth 20000 in
theorem ggX9_feed_X9_no : GoodIn wsX9_feed wsX9_no := goodIn_r _ [10, 11, 12, 13, 14, 15, 16, 17, 18, 19, 20, 21, 22, 23, 24, 25, 26, 27, 28, 29] (by decide +kernel) (by decide +kernel)
set_option maxRecDepth 20000 in
theorem gX9_feed_X9_no : GoodIn wsX9_feed (wsV RX9 82 RX9 yX9_no wsX9_no) := goodIn_app (goodIn_of _ (by decide +kernel)) ggX9_feed_X9_no
theorem dX9_feed_0 : decode cX9_feed 0 = .ok (.iload_n 2, 1) := by decide +kernel
theorem dX9_feed_1 : decode cX9_feed 1 = .ok (.iconst 1, 1) := by decide +kernel
theorem dX9_feed_2 : decode cX9_feed 2 = .ok (.iconst 4, 1) := by decide +kernel
theorem dX9_feed_3 : decode cX9_feed 3 = .ok (.invokestatic 48, 3) := by decide +kernel
theorem dX9_feed_6 : decode cX9_feed 6 = .ok (.ifCond .ne 9, 3) := by decide +kernel
theorem dX9_feed_9 : decode cX9_feed 9 = .ok (.aload_n 0, 1) := by decide +kernel
theorem dX9_feed_10 : decode cX9_feed 10 = .ok (.iconst 0, 1) := by decide +kernel
theorem dX9_feed_11 : decode cX9_feed 11 = .ok (.invokevirtual 82, 3) := by decide +kernel
theorem dX9_feed_14 : decode cX9_feed 14 = .ok (.ireturn, 1) := by decide +kernel
theorem dX9_feed_15 : decode cX9_feed 15 = .ok (.aload_n 0, 1) := by decide +kernel
theorem dX9_feed_16 : decode cX9_feed 16 = .ok (.getfield 170, 3) := by decide +kernel
theorem dX9_feed_19 : decode cX9_feed 19 = .ok (.iload_n 2, 1) := by decide +kernel
theorem dX9_feed_20 : decode cX9_feed 20 = .ok (.iadd, 1) := by decide +kernel
theorem dX9_feed_21 : decode cX9_feed 21 = .ok (.bipush 120, 2) := by decide +kernel
theorem dX9_feed_23 : decode cX9_feed 23 = .ok (.if_icmp .le 9, 3) := by decide +kernel
theorem dX9_feed_26 : decode cX9_feed 26 = .ok (.aload_n 0, 1) := by decide +kernel
theorem dX9_feed_27 : decode cX9_feed 27 = .ok (.iconst 1, 1) := by decide +kernel
theorem dX9_feed_28 : decode cX9_feed 28 = .ok (.invokevirtual 82, 3) := by decide +kernel
theorem dX9_feed_31 : decode cX9_feed 31 = .ok (.ireturn, 1) := by decide +kernel
theorem dX9_feed_32 : decode cX9_feed 32 = .ok (.iload_n 2, 1) := by decide +kernel
theorem dX9_feed_33 : decode cX9_feed 33 = .ok (.iconst 1, 1) := by decide +kernel
theorem dX9_feed_34 : decode cX9_feed 34 = .ok (.isub, 1) := by decide +kernel
theorem dX9_feed_35 : decode cX9_feed 35 = .ok (.istore_n 3, 1) := by decide +kernel
theorem dX9_feed_36 : decode cX9_feed 36 = .ok (.iload_n 3, 1) := by decide +kernel
theorem dX9_feed_37 : decode cX9_feed 37 = .ok (.ifCond .lt 38, 3) := by decide +kernel
theorem dX9_feed_40 : decode cX9_feed 40 = .ok (.aload_n 0, 1) := by decide +kernel
theorem dX9_feed_41 : decode cX9_feed 41 = .ok (.getfield 31, 3) := by decide +kernel
theorem dX9_feed_44 : decode cX9_feed 44 = .ok (.aload_n 0, 1) := by decide +kernel
theorem dX9_feed_45 : decode cX9_feed 45 = .ok (.getfield 170, 3) := by decide +kernel
theorem dX9_feed_48 : decode cX9_feed 48 = .ok (.iload_n 1, 1) := by decide +kernel
theorem dX9_feed_49 : decode cX9_feed 49 = .ok (.bipush 8, 2) := by decide +kernel
theorem dX9_feed_51 : decode cX9_feed 51 = .ok (.iload_n 3, 1) := by decide +kernel
theorem dX9_feed_52 : decode cX9_feed 52 = .ok (.imul, 1) := by decide +kernel
theorem dX9_feed_53 : decode cX9_feed 53 = .ok (.ishr, 1) := by decide +kernel
theorem dX9_feed_54 : decode cX9_feed 54 = .ok (.sipush 255, 3) := by decide +kernel
theorem dX9_feed_57 : decode cX9_feed 57 = .ok (.iand, 1) := by decide +kernel
theorem dX9_feed_58 : decode cX9_feed 58 = .ok (.iastore, 1) := by decide +kernel
theorem dX9_feed_59 : decode cX9_feed 59 = .ok (.aload_n 0, 1) := by decide +kernel
theorem dX9_feed_60 : decode cX9_feed 60 = .ok (.dup, 1) := by decide +kernel
theorem dX9_feed_61 : decode cX9_feed 61 = .ok (.getfield 170, 3) := by decide +kernel
theorem dX9_feed_64 : decode cX9_feed 64 = .ok (.iconst 1, 1) := by decide +kernel
theorem dX9_feed_65 : decode cX9_feed 65 = .ok (.iadd, 1) := by decide +kernel
theorem dX9_feed_66 : decode cX9_feed 66 = .ok (.putfield 170, 3) := by decide +kernel
theorem dX9_feed_69 : decode cX9_feed 69 = .ok (.iinc 3 (-1), 3) := by decide +kernel
theorem dX9_feed_72 : decode cX9_feed 72 = .ok (.goto (-36), 3) := by decide +kernel
theorem dX9_feed_75 : decode cX9_feed 75 = .ok (.aload_n 0, 1) := by decide +kernel
theorem dX9_feed_76 : decode cX9_feed 76 = .ok (.getfield 170, 3) := by decide +kernel
theorem dX9_feed_79 : decode cX9_feed 79 = .ok (.ireturn, 1) := by decide +kernel
theorem dX9_wipe_0 : decode cX9_wipe 0 = .ok (.aload_n 0, 1) := by decide +kernel
theorem dX9_wipe_1 : decode cX9_wipe 1 = .ok (.getfield 170, 3) := by decide +kernel
theorem dX9_wipe_4 : decode cX9_wipe 4 = .ok (.istore_n 1, 1) := by decide +kernel
theorem dX9_wipe_5 : decode cX9_wipe 5 = .ok (.aload_n 0, 1) := by decide +kernel
theorem dX9_wipe_6 : decode cX9_wipe 6 = .ok (.iconst 0, 1) := by decide +kernel
theorem dX9_wipe_7 : decode cX9_wipe 7 = .ok (.putfield 170, 3) := by decide +kernel
theorem dX9_wipe_10 : decode cX9_wipe 10 = .ok (.iload_n 1, 1) := by decide +kernel
theorem dX9_wipe_11 : decode cX9_wipe 11 = .ok (.ireturn, 1) := by decide +kernel
theorem dX9_byteAt_0 : decode cX9_byteAt 0 = .ok (.iload_n 1, 1) := by decide +kernel
theorem dX9_byteAt_1 : decode cX9_byteAt 1 = .ok (.aload_n 0, 1) := by decide +kernel
theorem dX9_byteAt_2 : decode cX9_byteAt 2 = .ok (.getfield 170, 3) := by decide +kernel
theorem dX9_byteAt_5 : decode cX9_byteAt 5 = .ok (.if_icmp .ge 12, 3) := by decide +kernel
theorem dX9_byteAt_8 : decode cX9_byteAt 8 = .ok (.aload_n 0, 1) := by decide +kernel
theorem dX9_byteAt_9 : decode cX9_byteAt 9 = .ok (.getfield 31, 3) := by decide +kernel
theorem dX9_byteAt_12 : decode cX9_byteAt 12 = .ok (.iload_n 1, 1) := by decide +kernel
theorem dX9_byteAt_13 : decode cX9_byteAt 13 = .ok (.iaload, 1) := by decide +kernel
theorem dX9_byteAt_14 : decode cX9_byteAt 14 = .ok (.goto 4, 3) := by decide +kernel
theorem dX9_byteAt_17 : decode cX9_byteAt 17 = .ok (.iconst (-1), 1) := by decide +kernel
theorem dX9_byteAt_18 : decode cX9_byteAt 18 = .ok (.ireturn, 1) := by decide +kernel
set_option maxRecDepth 20000 in
theorem ggX9_blanks_X9_byteAt : GoodIn wsX9_blanks wsX9_byteAt := goodIn_r _ [6, 7, 8, 9, 10, 11, 12, 13, 14, 15, 16, 17, 18, 19, 20, 21, 22, 23, 24, 25] (by decide +kernel) (by decide +kernel)
set_option maxRecDepth 20000 in
theorem gX9_blanks_X9_byteAt : GoodIn wsX9_blanks (wsV RX9 177 RX9 yX9_byteAt wsX9_byteAt) := goodIn_app (goodIn_of _ (by decide +kernel)) ggX9_blanks_X9_byteAt
theorem dX9_blanks_0 : decode cX9_blanks 0 = .ok (.aload_n 0, 1) := by decide +kernel
theorem dX9_blanks_1 : decode cX9_blanks 1 = .ok (.aload_n 0, 1) := by decide +kernel
theorem dX9_blanks_2 : decode cX9_blanks 2 = .ok (.getfield 174, 3) := by decide +kernel
theorem dX9_blanks_5 : decode cX9_blanks 5 = .ok (.invokevirtual 177, 3) := by decide +kernel
theorem dX9_blanks_8 : decode cX9_blanks 8 = .ok (.bipush 32, 2) := by decide +kernel
theorem dX9_blanks_10 : decode cX9_blanks 10 = .ok (.if_icmp .ne 16, 3) := by decide +kernel
theorem dX9_blanks_13 : decode cX9_blanks 13 = .ok (.aload_n 0, 1) := by decide +kernel
theorem dX9_blanks_14 : decode cX9_blanks 14 = .ok (.dup, 1) := by decide +kernel
theorem dX9_blanks_15 : decode cX9_blanks 15 = .ok (.getfield 174, 3) := by decide +kernel
theorem dX9_blanks_18 : decode cX9_blanks 18 = .ok (.iconst 1, 1) := by decide +kernel
theorem dX9_blanks_19 : decode cX9_blanks 19 = .ok (.iadd, 1) := by decide +kernel
theorem dX9_blanks_20 : decode cX9_blanks 20 = .ok (.putfield 174, 3) := by decide +kernel
theorem dX9_blanks_23 : decode cX9_blanks 23 = .ok (.goto (-23), 3) := by decide +kernel
theorem dX9_blanks_26 : decode cX9_blanks 26 = .ok (.return_, 1) := by decide +kernel
theorem dX9_fails_0 : decode cX9_fails 0 = .ok (.aload_n 0, 1) := by decide +kernel
theorem dX9_fails_1 : decode cX9_fails 1 = .ok (.aload_n 0, 1) := by decide +kernel
theorem dX9_fails_2 : decode cX9_fails 2 = .ok (.getfield 180, 3) := by decide +kernel
theorem dX9_fails_5 : decode cX9_fails 5 = .ok (.ifCond .ge 10, 3) := by decide +kernel
theorem dX9_fails_8 : decode cX9_fails 8 = .ok (.aload_n 0, 1) := by decide +kernel
theorem dX9_fails_9 : decode cX9_fails 9 = .ok (.getfield 174, 3) := by decide +kernel
theorem dX9_fails_12 : decode cX9_fails 12 = .ok (.goto 7, 3) := by decide +kernel
theorem dX9_fails_15 : decode cX9_fails 15 = .ok (.aload_n 0, 1) := by decide +kernel
theorem dX9_fails_16 : decode cX9_fails 16 = .ok (.getfield 180, 3) := by decide +kernel
theorem dX9_fails_19 : decode cX9_fails 19 = .ok (.putfield 180, 3) := by decide +kernel
theorem dX9_fails_22 : decode cX9_fails 22 = .ok (.iconst 0, 1) := by decide +kernel
theorem dX9_fails_23 : decode cX9_fails 23 = .ok (.ireturn, 1) := by decide +kernel
set_option maxRecDepth 20000 in
theorem ggX9_isLow_X9_in : GoodIn wsX9_isLow wsX9_in := goodIn_r _ [4] (by decide +kernel) (by decide +kernel)
set_option maxRecDepth 20000 in
theorem gX9_isLow_X9_in : GoodIn wsX9_isLow (va_wsS RX9 48 yX9_in wsX9_in) := goodIn_app (goodIn_of _ (by decide +kernel)) ggX9_isLow_X9_in
theorem dX9_isLow_0 : decode cX9_isLow 0 = .ok (.iload_n 0, 1) := by decide +kernel
theorem dX9_isLow_1 : decode cX9_isLow 1 = .ok (.bipush 97, 2) := by decide +kernel
theorem dX9_isLow_3 : decode cX9_isLow 3 = .ok (.bipush 122, 2) := by decide +kernel
theorem dX9_isLow_5 : decode cX9_isLow 5 = .ok (.invokestatic 48, 3) := by decide +kernel
theorem dX9_isLow_8 : decode cX9_isLow 8 = .ok (.ireturn, 1) := by decide +kernel
set_option maxRecDepth 20000 in
theorem ggX9_isDigit_X9_in : GoodIn wsX9_isDigit wsX9_in := goodIn_r _ [4] (by decide +kernel) (by decide +kernel)
set_option maxRecDepth 20000 in
theorem gX9_isDigit_X9_in : GoodIn wsX9_isDigit (va_wsS RX9 48 yX9_in wsX9_in) := goodIn_app (goodIn_of _ (by decide +kernel)) ggX9_isDigit_X9_in
theorem dX9_isDigit_0 : decode cX9_isDigit 0 = .ok (.iload_n 0, 1) := by decide +kernel
theorem dX9_isDigit_1 : decode cX9_isDigit 1 = .ok (.bipush 48, 2) := by decide +kernel
theorem dX9_isDigit_3 : decode cX9_isDigit 3 = .ok (.bipush 57, 2) := by decide +kernel
theorem dX9_isDigit_5 : decode cX9_isDigit 5 = .ok (.invokestatic 48, 3) := by decide +kernel
theorem dX9_isDigit_8 : decode cX9_isDigit 8 = .ok (.ireturn, 1) := by decide +kernel
set_option maxRecDepth 20000 in
theorem ggX9_wordEnd_X9_byteAt : GoodIn wsX9_wordEnd wsX9_byteAt := goodIn_r _ [6, 7, 8, 15, 16, 17, 18, 19, 20, 21, 22, 23, 24, 25, 26, 27, 28, 29, 30, 31] (by decide +kernel) (by decide +kernel)
set_option maxRecDepth 20000 in
theorem gX9_wordEnd_X9_byteAt : GoodIn wsX9_wordEnd (wsV RX9 177 RX9 yX9_byteAt wsX9_byteAt) := goodIn_app (goodIn_of _ (by decide +kernel)) ggX9_wordEnd_X9_byteAt
set_option maxRecDepth 20000 in
theorem ggX9_wordEnd_X9_isLow : GoodIn wsX9_wordEnd wsX9_isLow := goodIn_r _ [11, 12, 13, 5, 14] (by decide +kernel) (by decide +kernel)
set_option maxRecDepth 20000 in
theorem gX9_wordEnd_X9_isLow : GoodIn wsX9_wordEnd (va_wsS RX9 183 yX9_isLow wsX9_isLow) := goodIn_app (goodIn_of _ (by decide +kernel)) ggX9_wordEnd_X9_isLow
theorem dX9_wordEnd_0 : decode cX9_wordEnd 0 = .ok (.aload_n 0, 1) := by decide +kernel
theorem dX9_wordEnd_1 : decode cX9_wordEnd 1 = .ok (.getfield 174, 3) := by decide +kernel
theorem dX9_wordEnd_4 : decode cX9_wordEnd 4 = .ok (.istore_n 1, 1) := by decide +kernel
theorem dX9_wordEnd_5 : decode cX9_wordEnd 5 = .ok (.aload_n 0, 1) := by decide +kernel
theorem dX9_wordEnd_6 : decode cX9_wordEnd 6 = .ok (.iload_n 1, 1) := by decide +kernel
theorem dX9_wordEnd_7 : decode cX9_wordEnd 7 = .ok (.invokevirtual 177, 3) := by decide +kernel
theorem dX9_wordEnd_10 : decode cX9_wordEnd 10 = .ok (.invokestatic 183, 3) := by decide +kernel
theorem dX9_wordEnd_13 : decode cX9_wordEnd 13 = .ok (.ifCond .eq 9, 3) := by decide +kernel
theorem dX9_wordEnd_16 : decode cX9_wordEnd 16 = .ok (.iinc 1 1, 3) := by decide +kernel
theorem dX9_wordEnd_19 : decode cX9_wordEnd 19 = .ok (.goto (-14), 3) := by decide +kernel
theorem dX9_wordEnd_22 : decode cX9_wordEnd 22 = .ok (.iload_n 1, 1) := by decide +kernel
theorem dX9_wordEnd_23 : decode cX9_wordEnd 23 = .ok (.ireturn, 1) := by decide +kernel
set_option maxRecDepth 20000 in
theorem ggX9_isWord_X9_blanks : GoodIn wsX9_isWord wsX9_blanks := goodIn_r _ [6, 1, 7, 8, 9, 5, 10, 11, 12, 72, 73, 74, 75, 76, 77, 78, 79, 80, 81, 82, 83, 84, 85, 86, 87, 88] (by decide +kernel) (by decide +kernel)
set_option maxRecDepth 20000 in
theorem gX9_isWord_X9_blanks : GoodIn wsX9_isWord (wsV RX9 186 RX9 yX9_blanks wsX9_blanks) := goodIn_app (goodIn_of _ (by decide +kernel)) ggX9_isWord_X9_blanks
set_option maxRecDepth 20000 in
theorem ggX9_isWord_X9_wordEnd : GoodIn wsX9_isWord wsX9_wordEnd := goodIn_r _ [16, 1, 7, 8, 9, 5, 10, 11, 12, 17, 18, 19, 20, 21, 22, 72, 73, 74, 75, 76, 77, 78, 79, 80, 81, 82, 83, 84, 85, 86, 87, 88] (by decide +kernel) (by decide +kernel)
set_option maxRecDepth 20000 in
theorem gX9_isWord_X9_wordEnd : GoodIn wsX9_isWord (wsV RX9 189 RX9 yX9_wordEnd wsX9_wordEnd) := goodIn_app (goodIn_of _ (by decide +kernel)) ggX9_isWord_X9_wordEnd
set_option maxRecDepth 20000 in
theorem ggX9_isWord_J0_length_8abf5 : GoodIn wsX9_isWord wsJ0_length_8abf5 := goodIn_r _ [27, 28, 29, 30, 31, 26, 32, 33, 34] (by decide +kernel) (by decide +kernel)
set_option maxRecDepth 20000 in
theorem gX9_isWord_J0_length_8abf5 : GoodIn wsX9_isWord (wsV RX9 192 RJ0 yJ0_length_8abf5 wsJ0_length_8abf5) := goodIn_app (goodIn_of _ (by decide +kernel)) ggX9_isWord_J0_length_8abf5
set_option maxRecDepth 20000 in
theorem ggX9_isWord_X9_byteAt : GoodIn wsX9_isWord wsX9_byteAt := goodIn_r _ [10, 11, 12, 72, 73, 74, 75, 76, 77, 78, 79, 80, 81, 82, 83, 84, 85, 86, 87, 88] (by decide +kernel) (by decide +kernel)
set_option maxRecDepth 20000 in
theorem gX9_isWord_X9_byteAt : GoodIn wsX9_isWord (wsV RX9 177 RX9 yX9_byteAt wsX9_byteAt) := goodIn_app (goodIn_of _ (by decide +kernel)) ggX9_isWord_X9_byteAt
set_option maxRecDepth 20000 in
theorem ggX9_isWord_J0_charAt_5068e : GoodIn wsX9_isWord wsJ0_charAt_5068e := goodIn_r _ [38, 28, 39, 40, 41, 26, 42, 33, 34, 43, 44, 45, 46, 47, 48, 49, 50, 51, 52, 53, 54, 55, 56, 57, 58, 59, 60, 61, 62, 63, 64, 65, 66, 67, 68, 69, 70, 71] (by decide +kernel) (by decide +kernel)
set_option maxRecDepth 20000 in
theorem gX9_isWord_J0_charAt_5068e : GoodIn wsX9_isWord (wsV RX9 197 RJ0 yJ0_charAt_5068e wsJ0_charAt_5068e) := goodIn_app (goodIn_of _ (by decide +kernel)) ggX9_isWord_J0_charAt_5068e
theorem dX9_isWord_0 : decode cX9_isWord 0 = .ok (.aload_n 0, 1) := by decide +kernel
theorem dX9_isWord_1 : decode cX9_isWord 1 = .ok (.invokevirtual 186, 3) := by decide +kernel
theorem dX9_isWord_4 : decode cX9_isWord 4 = .ok (.aload_n 0, 1) := by decide +kernel
theorem dX9_isWord_5 : decode cX9_isWord 5 = .ok (.invokevirtual 189, 3) := by decide +kernel
theorem dX9_isWord_8 : decode cX9_isWord 8 = .ok (.aload_n 0, 1) := by decide +kernel
theorem dX9_isWord_9 : decode cX9_isWord 9 = .ok (.getfield 174, 3) := by decide +kernel
theorem dX9_isWord_12 : decode cX9_isWord 12 = .ok (.isub, 1) := by decide +kernel
theorem dX9_isWord_13 : decode cX9_isWord 13 = .ok (.aload_n 1, 1) := by decide +kernel
theorem dX9_isWord_14 : decode cX9_isWord 14 = .ok (.invokevirtual 192, 3) := by decide +kernel
theorem dX9_isWord_17 : decode cX9_isWord 17 = .ok (.if_icmp .ne 7, 3) := by decide +kernel
theorem dX9_isWord_20 : decode cX9_isWord 20 = .ok (.iconst 1, 1) := by decide +kernel
theorem dX9_isWord_21 : decode cX9_isWord 21 = .ok (.goto 4, 3) := by decide +kernel
theorem dX9_isWord_24 : decode cX9_isWord 24 = .ok (.iconst 0, 1) := by decide +kernel
theorem dX9_isWord_25 : decode cX9_isWord 25 = .ok (.istore_n 2, 1) := by decide +kernel
theorem dX9_isWord_26 : decode cX9_isWord 26 = .ok (.iconst 0, 1) := by decide +kernel
theorem dX9_isWord_27 : decode cX9_isWord 27 = .ok (.istore_n 3, 1) := by decide +kernel
theorem dX9_isWord_28 : decode cX9_isWord 28 = .ok (.iload_n 3, 1) := by decide +kernel
theorem dX9_isWord_29 : decode cX9_isWord 29 = .ok (.aload_n 1, 1) := by decide +kernel
theorem dX9_isWord_30 : decode cX9_isWord 30 = .ok (.invokevirtual 192, 3) := by decide +kernel
theorem dX9_isWord_33 : decode cX9_isWord 33 = .ok (.if_icmp .ge 37, 3) := by decide +kernel
theorem dX9_isWord_36 : decode cX9_isWord 36 = .ok (.iload_n 2, 1) := by decide +kernel
theorem dX9_isWord_37 : decode cX9_isWord 37 = .ok (.ifCond .eq 33, 3) := by decide +kernel
theorem dX9_isWord_40 : decode cX9_isWord 40 = .ok (.aload_n 0, 1) := by decide +kernel
theorem dX9_isWord_41 : decode cX9_isWord 41 = .ok (.aload_n 0, 1) := by decide +kernel
theorem dX9_isWord_42 : decode cX9_isWord 42 = .ok (.getfield 174, 3) := by decide +kernel
theorem dX9_isWord_45 : decode cX9_isWord 45 = .ok (.iload_n 3, 1) := by decide +kernel
theorem dX9_isWord_46 : decode cX9_isWord 46 = .ok (.iadd, 1) := by decide +kernel
theorem dX9_isWord_47 : decode cX9_isWord 47 = .ok (.invokevirtual 177, 3) := by decide +kernel
theorem dX9_isWord_50 : decode cX9_isWord 50 = .ok (.aload_n 1, 1) := by decide +kernel
theorem dX9_isWord_51 : decode cX9_isWord 51 = .ok (.iload_n 3, 1) := by decide +kernel
theorem dX9_isWord_52 : decode cX9_isWord 52 = .ok (.invokevirtual 197, 3) := by decide +kernel
theorem dX9_isWord_55 : decode cX9_isWord 55 = .ok (.if_icmp .ne 7, 3) := by decide +kernel
theorem dX9_isWord_58 : decode cX9_isWord 58 = .ok (.iconst 1, 1) := by decide +kernel
theorem dX9_isWord_59 : decode cX9_isWord 59 = .ok (.goto 4, 3) := by decide +kernel
theorem dX9_isWord_62 : decode cX9_isWord 62 = .ok (.iconst 0, 1) := by decide +kernel
theorem dX9_isWord_63 : decode cX9_isWord 63 = .ok (.istore_n 2, 1) := by decide +kernel
theorem dX9_isWord_64 : decode cX9_isWord 64 = .ok (.iinc 3 1, 3) := by decide +kernel
theorem dX9_isWord_67 : decode cX9_isWord 67 = .ok (.goto (-39), 3) := by decide +kernel
theorem dX9_isWord_70 : decode cX9_isWord 70 = .ok (.iload_n 2, 1) := by decide +kernel
theorem dX9_isWord_71 : decode cX9_isWord 71 = .ok (.ireturn, 1) := by decide +kernel
set_option maxRecDepth 20000 in
theorem ggX9_takes_X9_isWord : GoodIn wsX9_takes wsX9_isWord := goodIn_r _ [7, 2, 8, 9, 10, 6, 11, 12, 13, 14, 15, 16, 17, 18, 19, 20, 21, 22, 23, 24, 25, 26, 27, 28, 29, 30, 31, 32, 33, 34, 35, 36, 37, 38, 39, 40, 41, 42, 43, 44, 45, 46, 47, 48, 49, 50, 51, 52, 53, 54, 55, 56, 57, 58, 59, 60, 61, 62, 63, 64, 65, 66, 67, 68, 69, 70, 71, 72, 73, 74, 75, 76, 77, 78, 79, 80, 81, 82, 83, 84, 85, 86, 87, 88, 89, 90, 91, 92, 93] (by decide +kernel) (by decide +kernel)
set_option maxRecDepth 20000 in
theorem gX9_takes_X9_isWord : GoodIn wsX9_takes (wsV RX9 201 RX9 yX9_isWord wsX9_isWord) := goodIn_app (goodIn_of _ (by decide +kernel)) ggX9_takes_X9_isWord
set_option maxRecDepth 20000 in
theorem ggX9_takes_J0_length_8abf5 : GoodIn wsX9_takes wsJ0_length_8abf5 := goodIn_r _ [32, 33, 34, 35, 36, 31, 37, 38, 39] (by decide +kernel) (by decide +kernel)
set_option maxRecDepth 20000 in
theorem gX9_takes_J0_length_8abf5 : GoodIn wsX9_takes (wsV RX9 192 RJ0 yJ0_length_8abf5 wsJ0_length_8abf5) := goodIn_app (goodIn_of _ (by decide +kernel)) ggX9_takes_J0_length_8abf5
theorem dX9_takes_0 : decode cX9_takes 0 = .ok (.aload_n 0, 1) := by decide +kernel
theorem dX9_takes_1 : decode cX9_takes 1 = .ok (.getfield 180, 3) := by decide +kernel
theorem dX9_takes_4 : decode cX9_takes 4 = .ok (.ifCond .ge 15, 3) := by decide +kernel
theorem dX9_takes_7 : decode cX9_takes 7 = .ok (.aload_n 0, 1) := by decide +kernel
theorem dX9_takes_8 : decode cX9_takes 8 = .ok (.aload_n 1, 1) := by decide +kernel
theorem dX9_takes_9 : decode cX9_takes 9 = .ok (.invokevirtual 201, 3) := by decide +kernel
theorem dX9_takes_12 : decode cX9_takes 12 = .ok (.ifCond .eq 7, 3) := by decide +kernel
theorem dX9_takes_15 : decode cX9_takes 15 = .ok (.iconst 1, 1) := by decide +kernel
theorem dX9_takes_16 : decode cX9_takes 16 = .ok (.goto 4, 3) := by decide +kernel
theorem dX9_takes_19 : decode cX9_takes 19 = .ok (.iconst 0, 1) := by decide +kernel
theorem dX9_takes_20 : decode cX9_takes 20 = .ok (.istore_n 2, 1) := by decide +kernel
theorem dX9_takes_21 : decode cX9_takes 21 = .ok (.aload_n 0, 1) := by decide +kernel
theorem dX9_takes_22 : decode cX9_takes 22 = .ok (.dup, 1) := by decide +kernel
theorem dX9_takes_23 : decode cX9_takes 23 = .ok (.getfield 174, 3) := by decide +kernel
theorem dX9_takes_26 : decode cX9_takes 26 = .ok (.iload_n 2, 1) := by decide +kernel
theorem dX9_takes_27 : decode cX9_takes 27 = .ok (.ifCond .eq 10, 3) := by decide +kernel
theorem dX9_takes_30 : decode cX9_takes 30 = .ok (.aload_n 1, 1) := by decide +kernel
theorem dX9_takes_31 : decode cX9_takes 31 = .ok (.invokevirtual 192, 3) := by decide +kernel
theorem dX9_takes_34 : decode cX9_takes 34 = .ok (.goto 4, 3) := by decide +kernel
theorem dX9_takes_37 : decode cX9_takes 37 = .ok (.iconst 0, 1) := by decide +kernel
theorem dX9_takes_38 : decode cX9_takes 38 = .ok (.iadd, 1) := by decide +kernel
theorem dX9_takes_39 : decode cX9_takes 39 = .ok (.putfield 174, 3) := by decide +kernel
theorem dX9_takes_42 : decode cX9_takes 42 = .ok (.iload_n 2, 1) := by decide +kernel
theorem dX9_takes_43 : decode cX9_takes 43 = .ok (.ireturn, 1) := by decide +kernel
set_option maxRecDepth 20000 in
theorem ggX9_must_X9_takes : GoodIn wsX9_must wsX9_takes := goodIn_r _ [5, 6, 7, 8, 9, 10, 4, 11, 12, 13, 14, 15, 16, 17, 18, 19, 20, 21, 22, 23, 24, 25, 26, 27, 28, 29, 30, 31, 32, 33, 34, 35, 36, 37, 38, 39, 40, 41, 42, 43, 44, 45, 46, 47, 48, 49, 50, 51, 52, 53, 54, 55, 56, 57, 58, 59, 60, 61, 62, 63, 64, 65, 66, 67, 68, 69, 70, 71, 72, 73, 74, 75, 76, 77, 78, 79, 80, 85, 86, 87, 88, 89, 90, 91, 92, 93, 94, 95, 96, 97, 98, 99, 100, 101] (by decide +kernel) (by decide +kernel)
set_option maxRecDepth 20000 in
theorem gX9_must_X9_takes : GoodIn wsX9_must (wsV RX9 205 RX9 yX9_takes wsX9_takes) := goodIn_app (goodIn_of _ (by decide +kernel)) ggX9_must_X9_takes
set_option maxRecDepth 20000 in
theorem ggX9_must_X9_fails : GoodIn wsX9_must wsX9_fails := goodIn_r _ [84, 6, 7, 85, 86, 87, 88, 89, 90, 91, 92, 93, 94, 95, 96, 97, 98, 99, 100, 101] (by decide +kernel) (by decide +kernel)
set_option maxRecDepth 20000 in
theorem gX9_must_X9_fails : GoodIn wsX9_must (wsV RX9 208 RX9 yX9_fails wsX9_fails) := goodIn_app (goodIn_of _ (by decide +kernel)) ggX9_must_X9_fails
theorem dX9_must_0 : decode cX9_must 0 = .ok (.aload_n 0, 1) := by decide +kernel
theorem dX9_must_1 : decode cX9_must 1 = .ok (.aload_n 1, 1) := by decide +kernel
theorem dX9_must_2 : decode cX9_must 2 = .ok (.invokevirtual 205, 3) := by decide +kernel
theorem dX9_must_5 : decode cX9_must 5 = .ok (.ifCond .ne 10, 3) := by decide +kernel
theorem dX9_must_8 : decode cX9_must 8 = .ok (.aload_n 0, 1) := by decide +kernel
theorem dX9_must_9 : decode cX9_must 9 = .ok (.invokevirtual 208, 3) := by decide +kernel
theorem dX9_must_12 : decode cX9_must 12 = .ok (.ifCond .eq 7, 3) := by decide +kernel
theorem dX9_must_15 : decode cX9_must 15 = .ok (.iconst 1, 1) := by decide +kernel
theorem dX9_must_16 : decode cX9_must 16 = .ok (.goto 4, 3) := by decide +kernel
theorem dX9_must_19 : decode cX9_must 19 = .ok (.iconst 0, 1) := by decide +kernel
theorem dX9_must_20 : decode cX9_must 20 = .ok (.ireturn, 1) := by decide +kernel
set_option maxRecDepth 20000 in
theorem ggX9_number_X9_blanks : GoodIn wsX9_number wsX9_blanks := goodIn_r _ [15, 2, 16, 17, 18, 14, 19, 20, 21, 32, 33, 34, 35, 36, 37, 38, 39, 40, 41, 42, 43, 44, 45, 46, 47, 48] (by decide +kernel) (by decide +kernel)
set_option maxRecDepth 20000 in
theorem gX9_number_X9_blanks : GoodIn wsX9_number (wsV RX9 186 RX9 yX9_blanks wsX9_blanks) := goodIn_app (goodIn_of _ (by decide +kernel)) ggX9_number_X9_blanks
set_option maxRecDepth 20000 in
theorem ggX9_number_X9_byteAt : GoodIn wsX9_number wsX9_byteAt := goodIn_r _ [19, 20, 21, 32, 33, 34, 35, 36, 37, 38, 39, 40, 41, 42, 43, 44, 45, 46, 47, 48] (by decide +kernel) (by decide +kernel)
set_option maxRecDepth 20000 in
theorem gX9_number_X9_byteAt : GoodIn wsX9_number (wsV RX9 177 RX9 yX9_byteAt wsX9_byteAt) := goodIn_app (goodIn_of _ (by decide +kernel)) ggX9_number_X9_byteAt
set_option maxRecDepth 20000 in
theorem ggX9_number_X9_isDigit : GoodIn wsX9_number wsX9_isDigit := goodIn_r _ [24, 25, 26, 14, 27] (by decide +kernel) (by decide +kernel)
set_option maxRecDepth 20000 in
theorem gX9_number_X9_isDigit : GoodIn wsX9_number (va_wsS RX9 211 yX9_isDigit wsX9_isDigit) := goodIn_app (goodIn_of _ (by decide +kernel)) ggX9_number_X9_isDigit
set_option maxRecDepth 20000 in
theorem ggX9_number_X9_fails : GoodIn wsX9_number wsX9_fails := goodIn_r _ [31, 1, 2, 32, 33, 34, 35, 36, 37, 38, 39, 40, 41, 42, 43, 44, 45, 46, 47, 48] (by decide +kernel) (by decide +kernel)
set_option maxRecDepth 20000 in
theorem gX9_number_X9_fails : GoodIn wsX9_number (wsV RX9 208 RX9 yX9_fails wsX9_fails) := goodIn_app (goodIn_of _ (by decide +kernel)) ggX9_number_X9_fails
theorem dX9_number_0 : decode cX9_number 0 = .ok (.aload_n 0, 1) := by decide +kernel
theorem dX9_number_1 : decode cX9_number 1 = .ok (.invokevirtual 186, 3) := by decide +kernel
theorem dX9_number_4 : decode cX9_number 4 = .ok (.aload_n 0, 1) := by decide +kernel
theorem dX9_number_5 : decode cX9_number 5 = .ok (.getfield 180, 3) := by decide +kernel
theorem dX9_number_8 : decode cX9_number 8 = .ok (.ifCond .ge 17, 3) := by decide +kernel
theorem dX9_number_11 : decode cX9_number 11 = .ok (.aload_n 0, 1) := by decide +kernel
theorem dX9_number_12 : decode cX9_number 12 = .ok (.aload_n 0, 1) := by decide +kernel
theorem dX9_number_13 : decode cX9_number 13 = .ok (.getfield 174, 3) := by decide +kernel
theorem dX9_number_16 : decode cX9_number 16 = .ok (.invokevirtual 177, 3) := by decide +kernel
theorem dX9_number_19 : decode cX9_number 19 = .ok (.invokestatic 211, 3) := by decide +kernel
theorem dX9_number_22 : decode cX9_number 22 = .ok (.ifCond .ne 8, 3) := by decide +kernel
theorem dX9_number_25 : decode cX9_number 25 = .ok (.aload_n 0, 1) := by decide +kernel
theorem dX9_number_26 : decode cX9_number 26 = .ok (.invokevirtual 208, 3) := by decide +kernel
theorem dX9_number_29 : decode cX9_number 29 = .ok (.ireturn, 1) := by decide +kernel
theorem dX9_number_30 : decode cX9_number 30 = .ok (.lconst 0, 1) := by decide +kernel
theorem dX9_number_31 : decode cX9_number 31 = .ok (.lstore_n 3, 1) := by decide +kernel
theorem dX9_number_32 : decode cX9_number 32 = .ok (.aload_n 0, 1) := by decide +kernel
theorem dX9_number_33 : decode cX9_number 33 = .ok (.getfield 174, 3) := by decide +kernel
theorem dX9_number_36 : decode cX9_number 36 = .ok (.istore 5, 2) := by decide +kernel
theorem dX9_number_38 : decode cX9_number 38 = .ok (.aload_n 0, 1) := by decide +kernel
theorem dX9_number_39 : decode cX9_number 39 = .ok (.iload 5, 2) := by decide +kernel
theorem dX9_number_41 : decode cX9_number 41 = .ok (.invokevirtual 177, 3) := by decide +kernel
theorem dX9_number_44 : decode cX9_number 44 = .ok (.invokestatic 211, 3) := by decide +kernel
theorem dX9_number_47 : decode cX9_number 47 = .ok (.ifCond .eq 33, 3) := by decide +kernel
theorem dX9_number_50 : decode cX9_number 50 = .ok (.ldc2_w 214, 3) := by decide +kernel
theorem dX9_number_53 : decode cX9_number 53 = .ok (.ldc2_w 216, 3) := by decide +kernel
theorem dX9_number_56 : decode cX9_number 56 = .ok (.lload_n 3, 1) := by decide +kernel
theorem dX9_number_57 : decode cX9_number 57 = .ok (.lmul, 1) := by decide +kernel
theorem dX9_number_58 : decode cX9_number 58 = .ok (.aload_n 0, 1) := by decide +kernel
theorem dX9_number_59 : decode cX9_number 59 = .ok (.iload 5, 2) := by decide +kernel
theorem dX9_number_61 : decode cX9_number 61 = .ok (.invokevirtual 177, 3) := by decide +kernel
theorem dX9_number_64 : decode cX9_number 64 = .ok (.i2l, 1) := by decide +kernel
theorem dX9_number_65 : decode cX9_number 65 = .ok (.ladd, 1) := by decide +kernel
theorem dX9_number_66 : decode cX9_number 66 = .ok (.ldc2_w 218, 3) := by decide +kernel
theorem dX9_number_69 : decode cX9_number 69 = .ok (.lsub, 1) := by decide +kernel
theorem dX9_number_70 : decode cX9_number 70 = .ok (.invokestatic 220, 3) := by decide +kernel
theorem dX9_number_73 : decode cX9_number 73 = .ok (.lstore_n 3, 1) := by decide +kernel
theorem dX9_number_74 : decode cX9_number 74 = .ok (.iinc 5 1, 3) := by decide +kernel
theorem dX9_number_77 : decode cX9_number 77 = .ok (.goto (-39), 3) := by decide +kernel
theorem dX9_number_80 : decode cX9_number 80 = .ok (.lload_n 3, 1) := by decide +kernel
theorem dX9_number_81 : decode cX9_number 81 = .ok (.iload_n 1, 1) := by decide +kernel
theorem dX9_number_82 : decode cX9_number 82 = .ok (.i2l, 1) := by decide +kernel
theorem dX9_number_83 : decode cX9_number 83 = .ok (.lcmp, 1) := by decide +kernel
theorem dX9_number_84 : decode cX9_number 84 = .ok (.ifCond .lt 10, 3) := by decide +kernel
theorem dX9_number_87 : decode cX9_number 87 = .ok (.lload_n 3, 1) := by decide +kernel
theorem dX9_number_88 : decode cX9_number 88 = .ok (.iload_n 2, 1) := by decide +kernel
theorem dX9_number_89 : decode cX9_number 89 = .ok (.i2l, 1) := by decide +kernel
theorem dX9_number_90 : decode cX9_number 90 = .ok (.lcmp, 1) := by decide +kernel
theorem dX9_number_91 : decode cX9_number 91 = .ok (.ifCond .le 8, 3) := by decide +kernel
theorem dX9_number_94 : decode cX9_number 94 = .ok (.aload_n 0, 1) := by decide +kernel
theorem dX9_number_95 : decode cX9_number 95 = .ok (.invokevirtual 208, 3) := by decide +kernel
theorem dX9_number_98 : decode cX9_number 98 = .ok (.ireturn, 1) := by decide +kernel
theorem dX9_number_99 : decode cX9_number 99 = .ok (.aload_n 0, 1) := by decide +kernel
theorem dX9_number_100 : decode cX9_number 100 = .ok (.iload 5, 2) := by decide +kernel
theorem dX9_number_102 : decode cX9_number 102 = .ok (.putfield 174, 3) := by decide +kernel
theorem dX9_number_105 : decode cX9_number 105 = .ok (.aload_n 0, 1) := by decide +kernel
theorem dX9_number_106 : decode cX9_number 106 = .ok (.lload_n 3, 1) := by decide +kernel
theorem dX9_number_107 : decode cX9_number 107 = .ok (.l2i, 1) := by decide +kernel
theorem dX9_number_108 : decode cX9_number 108 = .ok (.putfield 226, 3) := by decide +kernel
theorem dX9_number_111 : decode cX9_number 111 = .ok (.iconst 1, 1) := by decide +kernel
theorem dX9_number_112 : decode cX9_number 112 = .ok (.ireturn, 1) := by decide +kernel
theorem dX9_kindName_0 : decode cX9_kindName 0 = .ok (.iload_n 0, 1) := by decide +kernel
theorem dX9_kindName_1 : decode cX9_kindName 1 = .ok (.tableswitch 50 0 4 #[35, 38, 41, 44, 47], 35) := by decide +kernel
theorem dX9_kindName_36 : decode cX9_kindName 36 = .ok (.ldc 229, 2) := by decide +kernel
theorem dX9_kindName_38 : decode cX9_kindName 38 = .ok (.areturn, 1) := by decide +kernel
theorem dX9_kindName_39 : decode cX9_kindName 39 = .ok (.ldc 231, 2) := by decide +kernel
theorem dX9_kindName_41 : decode cX9_kindName 41 = .ok (.areturn, 1) := by decide +kernel
theorem dX9_kindName_42 : decode cX9_kindName 42 = .ok (.ldc 233, 2) := by decide +kernel
theorem dX9_kindName_44 : decode cX9_kindName 44 = .ok (.areturn, 1) := by decide +kernel
theorem dX9_kindName_45 : decode cX9_kindName 45 = .ok (.ldc 235, 2) := by decide +kernel
theorem dX9_kindName_47 : decode cX9_kindName 47 = .ok (.areturn, 1) := by decide +kernel
theorem dX9_kindName_48 : decode cX9_kindName 48 = .ok (.ldc 237, 2) := by decide +kernel
theorem dX9_kindName_50 : decode cX9_kindName 50 = .ok (.areturn, 1) := by decide +kernel
theorem dX9_kindName_51 : decode cX9_kindName 51 = .ok (.ldc 239, 2) := by decide +kernel
theorem dX9_kindName_53 : decode cX9_kindName 53 = .ok (.areturn, 1) := by decide +kernel
set_option maxRecDepth 20000 in
theorem ggX9_told_X9_must : GoodIn wsX9_told wsX9_must := goodIn_r _ [5, 6, 7, 8, 4, 9, 10, 11, 12, 13, 14, 15, 16, 17, 18, 19, 20, 21, 22, 23, 24, 25, 26, 27, 28, 29, 30, 31, 32, 33, 34, 35, 36, 37, 38, 39, 40, 41, 42, 43, 44, 45, 46, 47, 48, 49, 50, 51, 52, 53, 54, 55, 56, 57, 58, 59, 60, 61, 62, 63, 64, 65, 66, 67, 68, 69, 70, 71, 72, 73, 74, 75, 76, 77, 78, 79, 80, 81, 82, 83, 84, 85, 86, 87, 88, 104, 105, 106, 107, 108, 109, 110, 111, 112, 113, 114, 115, 116, 117, 118, 119, 120] (by decide +kernel) (by decide +kernel)
set_option maxRecDepth 20000 in
theorem gX9_told_X9_must : GoodIn wsX9_told (wsV RX9 241 RX9 yX9_must wsX9_must) := goodIn_app (goodIn_of _ (by decide +kernel)) ggX9_told_X9_must
set_option maxRecDepth 20000 in
theorem ggX9_told_X9_number : GoodIn wsX9_told wsX9_number := goodIn_r _ [92, 10, 11, 93, 94, 95, 96, 97, 98, 99, 100, 16, 17, 18, 4, 19, 20, 21, 22, 23, 24, 25, 101, 102, 103, 33, 34, 35, 85, 86, 87, 88, 104, 105, 106, 107, 108, 109, 110, 111, 112, 113, 114, 115, 116, 117, 118, 119, 120] (by decide +kernel) (by decide +kernel)
set_option maxRecDepth 20000 in
theorem gX9_told_X9_number : GoodIn wsX9_told (wsV RX9 244 RX9 yX9_number wsX9_number) := goodIn_app (goodIn_of _ (by decide +kernel)) ggX9_told_X9_number
theorem dX9_told_0 : decode cX9_told 0 = .ok (.aload_n 0, 1) := by decide +kernel
theorem dX9_told_1 : decode cX9_told 1 = .ok (.aload_n 1, 1) := by decide +kernel
theorem dX9_told_2 : decode cX9_told 2 = .ok (.invokevirtual 241, 3) := by decide +kernel
theorem dX9_told_5 : decode cX9_told 5 = .ok (.ifCond .eq 16, 3) := by decide +kernel
theorem dX9_told_8 : decode cX9_told 8 = .ok (.aload_n 0, 1) := by decide +kernel
theorem dX9_told_9 : decode cX9_told 9 = .ok (.iload_n 2, 1) := by decide +kernel
theorem dX9_told_10 : decode cX9_told 10 = .ok (.iload_n 3, 1) := by decide +kernel
theorem dX9_told_11 : decode cX9_told 11 = .ok (.invokevirtual 244, 3) := by decide +kernel
theorem dX9_told_14 : decode cX9_told 14 = .ok (.ifCond .eq 7, 3) := by decide +kernel
theorem dX9_told_17 : decode cX9_told 17 = .ok (.iconst 1, 1) := by decide +kernel
theorem dX9_told_18 : decode cX9_told 18 = .ok (.goto 4, 3) := by decide +kernel
theorem dX9_told_21 : decode cX9_told 21 = .ok (.iconst 0, 1) := by decide +kernel
theorem dX9_told_22 : decode cX9_told 22 = .ok (.ireturn, 1) := by decide +kernel
set_option maxRecDepth 20000 in
theorem ggX9_perhaps_X9_takes : GoodIn wsX9_perhaps wsX9_takes := goodIn_r _ [6, 7, 8, 9, 10, 11, 5, 12, 13, 14, 15, 16, 17, 18, 19, 20, 21, 22, 23, 24, 25, 26, 27, 28, 29, 30, 31, 32, 33, 34, 35, 36, 37, 38, 39, 40, 41, 42, 43, 44, 45, 46, 47, 48, 49, 50, 51, 52, 53, 54, 55, 56, 57, 58, 59, 60, 61, 62, 63, 64, 65, 66, 67, 68, 69, 70, 71, 72, 73, 74, 75, 76, 77, 78, 79, 80, 81, 100, 101, 102, 103, 104, 105, 106, 107, 108, 109, 110, 111, 112, 113, 114, 115, 116] (by decide +kernel) (by decide +kernel)
set_option maxRecDepth 20000 in
theorem gX9_perhaps_X9_takes : GoodIn wsX9_perhaps (wsV RX9 205 RX9 yX9_takes wsX9_takes) := goodIn_app (goodIn_of _ (by decide +kernel)) ggX9_perhaps_X9_takes
set_option maxRecDepth 20000 in
theorem ggX9_perhaps_X9_number : GoodIn wsX9_perhaps wsX9_number := goodIn_r _ [85, 7, 8, 86, 87, 88, 89, 90, 91, 92, 1, 13, 14, 15, 5, 16, 17, 18, 19, 20, 21, 22, 93, 94, 95, 30, 31, 32, 96, 97, 98, 99, 100, 101, 102, 103, 104, 105, 106, 107, 108, 109, 110, 111, 112, 113, 114, 115, 116] (by decide +kernel) (by decide +kernel)
set_option maxRecDepth 20000 in
theorem gX9_perhaps_X9_number : GoodIn wsX9_perhaps (wsV RX9 244 RX9 yX9_number wsX9_number) := goodIn_app (goodIn_of _ (by decide +kernel)) ggX9_perhaps_X9_number
theorem dX9_perhaps_0 : decode cX9_perhaps 0 = .ok (.aload_n 0, 1) := by decide +kernel
theorem dX9_perhaps_1 : decode cX9_perhaps 1 = .ok (.aload_n 1, 1) := by decide +kernel
theorem dX9_perhaps_2 : decode cX9_perhaps 2 = .ok (.invokevirtual 205, 3) := by decide +kernel
theorem dX9_perhaps_5 : decode cX9_perhaps 5 = .ok (.ifCond .ne 5, 3) := by decide +kernel
theorem dX9_perhaps_8 : decode cX9_perhaps 8 = .ok (.iload_n 3, 1) := by decide +kernel
theorem dX9_perhaps_9 : decode cX9_perhaps 9 = .ok (.ireturn, 1) := by decide +kernel
theorem dX9_perhaps_10 : decode cX9_perhaps 10 = .ok (.aload_n 0, 1) := by decide +kernel
theorem dX9_perhaps_11 : decode cX9_perhaps 11 = .ok (.iconst 0, 1) := by decide +kernel
theorem dX9_perhaps_12 : decode cX9_perhaps 12 = .ok (.iload_n 2, 1) := by decide +kernel
theorem dX9_perhaps_13 : decode cX9_perhaps 13 = .ok (.invokevirtual 244, 3) := by decide +kernel
theorem dX9_perhaps_16 : decode cX9_perhaps 16 = .ok (.ifCond .eq 10, 3) := by decide +kernel
theorem dX9_perhaps_19 : decode cX9_perhaps 19 = .ok (.aload_n 0, 1) := by decide +kernel
theorem dX9_perhaps_20 : decode cX9_perhaps 20 = .ok (.getfield 226, 3) := by decide +kernel
theorem dX9_perhaps_23 : decode cX9_perhaps 23 = .ok (.goto 4, 3) := by decide +kernel
theorem dX9_perhaps_26 : decode cX9_perhaps 26 = .ok (.iconst (-1), 1) := by decide +kernel
theorem dX9_perhaps_27 : decode cX9_perhaps 27 = .ok (.ireturn, 1) := by decide +kernel
set_option maxRecDepth 20000 in
theorem ggX9_beingTold_X9_told : GoodIn wsX9_beingTold wsX9_told := goodIn_r _ [7, 8, 9, 10, 6, 11, 12, 13, 14, 15, 2, 16, 17, 18, 19, 20, 21, 22, 23, 24, 25, 26, 27, 28, 29, 30, 31, 32, 33, 34, 35, 36, 37, 38, 39, 40, 41, 42, 43, 44, 45, 46, 47, 48, 49, 50, 51, 52, 53, 54, 55, 56, 57, 58, 59, 60, 61, 62, 63, 64, 65, 66, 67, 68, 69, 70, 71, 72, 73, 74, 75, 76, 77, 78, 79, 80, 81, 82, 83, 84, 85, 86, 87, 88, 89, 90, 91, 92, 93, 94, 95, 96, 97, 98, 99, 100, 101, 102, 103, 104, 1, 105, 106, 107, 121, 122, 123, 124, 125, 126, 127, 128, 129, 130, 131, 132, 133, 134, 135, 136, 137] (by decide +kernel) (by decide +kernel)
set_option maxRecDepth 20000 in
theorem gX9_beingTold_X9_told : GoodIn wsX9_beingTold (wsV RX9 248 RX9 yX9_told wsX9_told) := goodIn_app (goodIn_of _ (by decide +kernel)) ggX9_beingTold_X9_told
set_option maxRecDepth 20000 in
theorem ggX9_beingTold_X9_perhaps : GoodIn wsX9_beingTold wsX9_perhaps := goodIn_r _ [111, 1, 12, 13, 14, 6, 15, 2, 16, 17, 18, 19, 20, 21, 22, 23, 24, 25, 26, 27, 28, 29, 30, 31, 32, 33, 34, 35, 36, 37, 38, 39, 40, 41, 42, 43, 44, 45, 46, 47, 48, 49, 50, 51, 52, 53, 54, 55, 56, 57, 58, 59, 60, 61, 62, 63, 64, 65, 66, 67, 68, 69, 70, 71, 72, 73, 74, 75, 76, 77, 78, 79, 80, 81, 82, 83, 84, 85, 86, 87, 88, 89, 94, 95, 96, 97, 98, 99, 100, 101, 102, 103, 104, 105, 106, 107, 90, 91, 92, 93, 121, 122, 123, 124, 125, 126, 127, 128, 129, 130, 131, 132, 133, 134, 135, 136, 137] (by decide +kernel) (by decide +kernel)
set_option maxRecDepth 20000 in
theorem gX9_beingTold_X9_perhaps : GoodIn wsX9_beingTold (wsV RX9 254 RX9 yX9_perhaps wsX9_perhaps) := goodIn_app (goodIn_of _ (by decide +kernel)) ggX9_beingTold_X9_perhaps
set_option maxRecDepth 20000 in
theorem ggX9_beingTold_X9_adds : GoodIn wsX9_beingTold wsX9_adds := goodIn_r _ [115, 116, 117, 118, 119, 6, 120, 121, 122, 123, 124, 125, 126, 127, 128, 129, 130, 131, 132, 133, 134, 135, 136, 137] (by decide +kernel) (by decide +kernel)
set_option maxRecDepth 20000 in
theorem gX9_beingTold_X9_adds : GoodIn wsX9_beingTold (wsV RX9 91 RX9 yX9_adds wsX9_adds) := goodIn_app (goodIn_of _ (by decide +kernel)) ggX9_beingTold_X9_adds
theorem dX9_beingTold_0 : decode cX9_beingTold 0 = .ok (.aload_n 0, 1) := by decide +kernel
theorem dX9_beingTold_1 : decode cX9_beingTold 1 = .ok (.ldc 247, 2) := by decide +kernel
theorem dX9_beingTold_3 : decode cX9_beingTold 3 = .ok (.iconst 0, 1) := by decide +kernel
theorem dX9_beingTold_4 : decode cX9_beingTold 4 = .ok (.bipush 15, 2) := by decide +kernel
theorem dX9_beingTold_6 : decode cX9_beingTold 6 = .ok (.invokevirtual 248, 3) := by decide +kernel
theorem dX9_beingTold_9 : decode cX9_beingTold 9 = .ok (.ifCond .ne 5, 3) := by decide +kernel
theorem dX9_beingTold_12 : decode cX9_beingTold 12 = .ok (.iconst 0, 1) := by decide +kernel
theorem dX9_beingTold_13 : decode cX9_beingTold 13 = .ok (.ireturn, 1) := by decide +kernel
theorem dX9_beingTold_14 : decode cX9_beingTold 14 = .ok (.aload_n 0, 1) := by decide +kernel
theorem dX9_beingTold_15 : decode cX9_beingTold 15 = .ok (.getfield 226, 3) := by decide +kernel
theorem dX9_beingTold_18 : decode cX9_beingTold 18 = .ok (.istore_n 2, 1) := by decide +kernel
theorem dX9_beingTold_19 : decode cX9_beingTold 19 = .ok (.aload_n 0, 1) := by decide +kernel
theorem dX9_beingTold_20 : decode cX9_beingTold 20 = .ok (.ldc 252, 2) := by decide +kernel
theorem dX9_beingTold_22 : decode cX9_beingTold 22 = .ok (.bipush 15, 2) := by decide +kernel
theorem dX9_beingTold_24 : decode cX9_beingTold 24 = .ok (.iload_n 2, 1) := by decide +kernel
theorem dX9_beingTold_25 : decode cX9_beingTold 25 = .ok (.invokevirtual 254, 3) := by decide +kernel
theorem dX9_beingTold_28 : decode cX9_beingTold 28 = .ok (.istore_n 3, 1) := by decide +kernel
theorem dX9_beingTold_29 : decode cX9_beingTold 29 = .ok (.aload_n 0, 1) := by decide +kernel
theorem dX9_beingTold_30 : decode cX9_beingTold 30 = .ok (.getfield 180, 3) := by decide +kernel
theorem dX9_beingTold_33 : decode cX9_beingTold 33 = .ok (.ifCond .ge 17, 3) := by decide +kernel
theorem dX9_beingTold_36 : decode cX9_beingTold 36 = .ok (.aload_n 0, 1) := by decide +kernel
theorem dX9_beingTold_37 : decode cX9_beingTold 37 = .ok (.ldc_w 258, 3) := by decide +kernel
theorem dX9_beingTold_40 : decode cX9_beingTold 40 = .ok (.bipush 99, 2) := by decide +kernel
theorem dX9_beingTold_42 : decode cX9_beingTold 42 = .ok (.bipush 20, 2) := by decide +kernel
theorem dX9_beingTold_44 : decode cX9_beingTold 44 = .ok (.invokevirtual 254, 3) := by decide +kernel
theorem dX9_beingTold_47 : decode cX9_beingTold 47 = .ok (.goto 4, 3) := by decide +kernel
theorem dX9_beingTold_50 : decode cX9_beingTold 50 = .ok (.iconst (-1), 1) := by decide +kernel
theorem dX9_beingTold_51 : decode cX9_beingTold 51 = .ok (.istore 4, 2) := by decide +kernel
theorem dX9_beingTold_53 : decode cX9_beingTold 53 = .ok (.aload_n 0, 1) := by decide +kernel
theorem dX9_beingTold_54 : decode cX9_beingTold 54 = .ok (.getfield 180, 3) := by decide +kernel
theorem dX9_beingTold_57 : decode cX9_beingTold 57 = .ok (.ifCond .ge 17, 3) := by decide +kernel
theorem dX9_beingTold_60 : decode cX9_beingTold 60 = .ok (.aload_n 0, 1) := by decide +kernel
theorem dX9_beingTold_61 : decode cX9_beingTold 61 = .ok (.ldc_w 260, 3) := by decide +kernel
theorem dX9_beingTold_64 : decode cX9_beingTold 64 = .ok (.sipush 999, 3) := by decide +kernel
theorem dX9_beingTold_67 : decode cX9_beingTold 67 = .ok (.iconst 0, 1) := by decide +kernel
theorem dX9_beingTold_68 : decode cX9_beingTold 68 = .ok (.invokevirtual 254, 3) := by decide +kernel
theorem dX9_beingTold_71 : decode cX9_beingTold 71 = .ok (.goto 4, 3) := by decide +kernel
theorem dX9_beingTold_74 : decode cX9_beingTold 74 = .ok (.iconst (-1), 1) := by decide +kernel
theorem dX9_beingTold_75 : decode cX9_beingTold 75 = .ok (.istore 5, 2) := by decide +kernel
theorem dX9_beingTold_77 : decode cX9_beingTold 77 = .ok (.aload_n 0, 1) := by decide +kernel
theorem dX9_beingTold_78 : decode cX9_beingTold 78 = .ok (.getfield 180, 3) := by decide +kernel
theorem dX9_beingTold_81 : decode cX9_beingTold 81 = .ok (.ifCond .lt 5, 3) := by decide +kernel
theorem dX9_beingTold_84 : decode cX9_beingTold 84 = .ok (.iconst 0, 1) := by decide +kernel
theorem dX9_beingTold_85 : decode cX9_beingTold 85 = .ok (.ireturn, 1) := by decide +kernel
theorem dX9_beingTold_86 : decode cX9_beingTold 86 = .ok (.aload_n 0, 1) := by decide +kernel
theorem dX9_beingTold_87 : decode cX9_beingTold 87 = .ok (.iload_n 1, 1) := by decide +kernel
theorem dX9_beingTold_88 : decode cX9_beingTold 88 = .ok (.iload_n 2, 1) := by decide +kernel
theorem dX9_beingTold_89 : decode cX9_beingTold 89 = .ok (.iload_n 3, 1) := by decide +kernel
theorem dX9_beingTold_90 : decode cX9_beingTold 90 = .ok (.iload 4, 2) := by decide +kernel
theorem dX9_beingTold_92 : decode cX9_beingTold 92 = .ok (.iload 5, 2) := by decide +kernel
theorem dX9_beingTold_94 : decode cX9_beingTold 94 = .ok (.invokevirtual 91, 3) := by decide +kernel
theorem dX9_beingTold_97 : decode cX9_beingTold 97 = .ok (.iconst 1, 1) := by decide +kernel
theorem dX9_beingTold_98 : decode cX9_beingTold 98 = .ok (.ireturn, 1) := by decide +kernel
set_option maxRecDepth 20000 in
theorem ggX9_taskTold_X9_told : GoodIn wsX9_taskTold wsX9_told := goodIn_r _ [6, 7, 8, 9, 5, 10, 11, 12, 13, 14, 15, 16, 17, 18, 19, 20, 21, 22, 23, 24, 25, 26, 27, 28, 29, 30, 31, 32, 33, 34, 35, 36, 37, 38, 39, 40, 41, 42, 43, 44, 45, 46, 47, 48, 49, 50, 51, 52, 53, 54, 55, 56, 57, 58, 59, 60, 61, 62, 63, 64, 65, 66, 67, 68, 69, 70, 71, 72, 73, 74, 75, 76, 77, 78, 79, 80, 81, 82, 83, 84, 85, 86, 87, 88, 89, 90, 91, 92, 93, 94, 95, 96, 97, 98, 99, 100, 101, 102, 103, 104, 1, 105, 106, 107, 113, 114, 115, 116, 117, 118, 119, 120, 121, 122, 123, 124, 125, 126, 127, 128, 129] (by decide +kernel) (by decide +kernel)
set_option maxRecDepth 20000 in
theorem gX9_taskTold_X9_told : GoodIn wsX9_taskTold (wsV RX9 248 RX9 yX9_told wsX9_told) := goodIn_app (goodIn_of _ (by decide +kernel)) ggX9_taskTold_X9_told
set_option maxRecDepth 20000 in
theorem ggX9_taskTold_X9_addsTask : GoodIn wsX9_taskTold wsX9_addsTask := goodIn_r _ [111, 112, 113, 114, 115, 116, 117, 118, 119, 120, 121, 122, 123, 124, 125, 126, 127, 128, 129] (by decide +kernel) (by decide +kernel)
set_option maxRecDepth 20000 in
theorem gX9_taskTold_X9_addsTask : GoodIn wsX9_taskTold (wsV RX9 109 RX9 yX9_addsTask wsX9_addsTask) := goodIn_app (goodIn_of _ (by decide +kernel)) ggX9_taskTold_X9_addsTask
theorem dX9_taskTold_0 : decode cX9_taskTold 0 = .ok (.aload_n 0, 1) := by decide +kernel
theorem dX9_taskTold_1 : decode cX9_taskTold 1 = .ok (.ldc 247, 2) := by decide +kernel
theorem dX9_taskTold_3 : decode cX9_taskTold 3 = .ok (.iconst 0, 1) := by decide +kernel
theorem dX9_taskTold_4 : decode cX9_taskTold 4 = .ok (.bipush 15, 2) := by decide +kernel
theorem dX9_taskTold_6 : decode cX9_taskTold 6 = .ok (.invokevirtual 248, 3) := by decide +kernel
theorem dX9_taskTold_9 : decode cX9_taskTold 9 = .ok (.ifCond .ne 5, 3) := by decide +kernel
theorem dX9_taskTold_12 : decode cX9_taskTold 12 = .ok (.iconst 0, 1) := by decide +kernel
theorem dX9_taskTold_13 : decode cX9_taskTold 13 = .ok (.ireturn, 1) := by decide +kernel
theorem dX9_taskTold_14 : decode cX9_taskTold 14 = .ok (.aload_n 0, 1) := by decide +kernel
theorem dX9_taskTold_15 : decode cX9_taskTold 15 = .ok (.getfield 226, 3) := by decide +kernel
theorem dX9_taskTold_18 : decode cX9_taskTold 18 = .ok (.istore_n 1, 1) := by decide +kernel
theorem dX9_taskTold_19 : decode cX9_taskTold 19 = .ok (.aload_n 0, 1) := by decide +kernel
theorem dX9_taskTold_20 : decode cX9_taskTold 20 = .ok (.ldc_w 262, 3) := by decide +kernel
theorem dX9_taskTold_23 : decode cX9_taskTold 23 = .ok (.iconst 0, 1) := by decide +kernel
theorem dX9_taskTold_24 : decode cX9_taskTold 24 = .ok (.bipush 99, 2) := by decide +kernel
theorem dX9_taskTold_26 : decode cX9_taskTold 26 = .ok (.invokevirtual 248, 3) := by decide +kernel
theorem dX9_taskTold_29 : decode cX9_taskTold 29 = .ok (.ifCond .ne 5, 3) := by decide +kernel
theorem dX9_taskTold_32 : decode cX9_taskTold 32 = .ok (.iconst 0, 1) := by decide +kernel
theorem dX9_taskTold_33 : decode cX9_taskTold 33 = .ok (.ireturn, 1) := by decide +kernel
theorem dX9_taskTold_34 : decode cX9_taskTold 34 = .ok (.aload_n 0, 1) := by decide +kernel
theorem dX9_taskTold_35 : decode cX9_taskTold 35 = .ok (.getfield 226, 3) := by decide +kernel
theorem dX9_taskTold_38 : decode cX9_taskTold 38 = .ok (.istore_n 2, 1) := by decide +kernel
theorem dX9_taskTold_39 : decode cX9_taskTold 39 = .ok (.aload_n 0, 1) := by decide +kernel
theorem dX9_taskTold_40 : decode cX9_taskTold 40 = .ok (.ldc_w 263, 3) := by decide +kernel
theorem dX9_taskTold_43 : decode cX9_taskTold 43 = .ok (.iconst 1, 1) := by decide +kernel
theorem dX9_taskTold_44 : decode cX9_taskTold 44 = .ok (.bipush 99, 2) := by decide +kernel
theorem dX9_taskTold_46 : decode cX9_taskTold 46 = .ok (.invokevirtual 248, 3) := by decide +kernel
theorem dX9_taskTold_49 : decode cX9_taskTold 49 = .ok (.ifCond .ne 5, 3) := by decide +kernel
theorem dX9_taskTold_52 : decode cX9_taskTold 52 = .ok (.iconst 0, 1) := by decide +kernel
theorem dX9_taskTold_53 : decode cX9_taskTold 53 = .ok (.ireturn, 1) := by decide +kernel
theorem dX9_taskTold_54 : decode cX9_taskTold 54 = .ok (.aload_n 0, 1) := by decide +kernel
theorem dX9_taskTold_55 : decode cX9_taskTold 55 = .ok (.iload_n 1, 1) := by decide +kernel
theorem dX9_taskTold_56 : decode cX9_taskTold 56 = .ok (.iload_n 2, 1) := by decide +kernel
theorem dX9_taskTold_57 : decode cX9_taskTold 57 = .ok (.aload_n 0, 1) := by decide +kernel
theorem dX9_taskTold_58 : decode cX9_taskTold 58 = .ok (.getfield 226, 3) := by decide +kernel
theorem dX9_taskTold_61 : decode cX9_taskTold 61 = .ok (.invokevirtual 109, 3) := by decide +kernel
theorem dX9_taskTold_64 : decode cX9_taskTold 64 = .ok (.iconst 1, 1) := by decide +kernel
theorem dX9_taskTold_65 : decode cX9_taskTold 65 = .ok (.ireturn, 1) := by decide +kernel
set_option maxRecDepth 20000 in
theorem ggX9_bowlTold_X9_number : GoodIn wsX9_bowlTold wsX9_number := goodIn_r _ [7, 8, 9, 10, 11, 12, 13, 14, 15, 16, 1, 17, 18, 19, 6, 20, 21, 22, 23, 24, 25, 26, 27, 28, 29, 30, 31, 32, 33, 34, 35, 36, 37, 38, 39, 40, 41, 42, 43, 44, 45, 46, 47, 48, 49, 50, 51, 52, 53] (by decide +kernel) (by decide +kernel)
set_option maxRecDepth 20000 in
theorem gX9_bowlTold_X9_number : GoodIn wsX9_bowlTold (wsV RX9 244 RX9 yX9_number wsX9_number) := goodIn_app (goodIn_of _ (by decide +kernel)) ggX9_bowlTold_X9_number
theorem dX9_bowlTold_0 : decode cX9_bowlTold 0 = .ok (.aload_n 0, 1) := by decide +kernel
theorem dX9_bowlTold_1 : decode cX9_bowlTold 1 = .ok (.iconst 0, 1) := by decide +kernel
theorem dX9_bowlTold_2 : decode cX9_bowlTold 2 = .ok (.bipush 15, 2) := by decide +kernel
theorem dX9_bowlTold_4 : decode cX9_bowlTold 4 = .ok (.invokevirtual 244, 3) := by decide +kernel
theorem dX9_bowlTold_7 : decode cX9_bowlTold 7 = .ok (.ifCond .ne 5, 3) := by decide +kernel
theorem dX9_bowlTold_10 : decode cX9_bowlTold 10 = .ok (.iconst 0, 1) := by decide +kernel
theorem dX9_bowlTold_11 : decode cX9_bowlTold 11 = .ok (.ireturn, 1) := by decide +kernel
theorem dX9_bowlTold_12 : decode cX9_bowlTold 12 = .ok (.aload_n 0, 1) := by decide +kernel
theorem dX9_bowlTold_13 : decode cX9_bowlTold 13 = .ok (.getfield 226, 3) := by decide +kernel
theorem dX9_bowlTold_16 : decode cX9_bowlTold 16 = .ok (.istore_n 1, 1) := by decide +kernel
theorem dX9_bowlTold_17 : decode cX9_bowlTold 17 = .ok (.aload_n 0, 1) := by decide +kernel
theorem dX9_bowlTold_18 : decode cX9_bowlTold 18 = .ok (.iconst 0, 1) := by decide +kernel
theorem dX9_bowlTold_19 : decode cX9_bowlTold 19 = .ok (.bipush 99, 2) := by decide +kernel
theorem dX9_bowlTold_21 : decode cX9_bowlTold 21 = .ok (.invokevirtual 244, 3) := by decide +kernel
theorem dX9_bowlTold_24 : decode cX9_bowlTold 24 = .ok (.ifCond .ne 5, 3) := by decide +kernel
theorem dX9_bowlTold_27 : decode cX9_bowlTold 27 = .ok (.iconst 0, 1) := by decide +kernel
theorem dX9_bowlTold_28 : decode cX9_bowlTold 28 = .ok (.ireturn, 1) := by decide +kernel
theorem dX9_bowlTold_29 : decode cX9_bowlTold 29 = .ok (.aload_n 0, 1) := by decide +kernel
theorem dX9_bowlTold_30 : decode cX9_bowlTold 30 = .ok (.getfield 9, 3) := by decide +kernel
theorem dX9_bowlTold_33 : decode cX9_bowlTold 33 = .ok (.iconst 3, 1) := by decide +kernel
theorem dX9_bowlTold_34 : decode cX9_bowlTold 34 = .ok (.iload_n 1, 1) := by decide +kernel
theorem dX9_bowlTold_35 : decode cX9_bowlTold 35 = .ok (.iadd, 1) := by decide +kernel
theorem dX9_bowlTold_36 : decode cX9_bowlTold 36 = .ok (.aload_n 0, 1) := by decide +kernel
theorem dX9_bowlTold_37 : decode cX9_bowlTold 37 = .ok (.getfield 226, 3) := by decide +kernel
theorem dX9_bowlTold_40 : decode cX9_bowlTold 40 = .ok (.iastore, 1) := by decide +kernel
theorem dX9_bowlTold_41 : decode cX9_bowlTold 41 = .ok (.iconst 1, 1) := by decide +kernel
theorem dX9_bowlTold_42 : decode cX9_bowlTold 42 = .ok (.ireturn, 1) := by decide +kernel
set_option maxRecDepth 20000 in
theorem ggX9_item_X9_kindName : GoodIn wsX9_item wsX9_kindName := goodIn_r _ [6] (by decide +kernel) (by decide +kernel)
set_option maxRecDepth 20000 in
theorem gX9_item_X9_kindName : GoodIn wsX9_item (va_wsS RX9 265 yX9_kindName wsX9_kindName) := goodIn_app (goodIn_of _ (by decide +kernel)) ggX9_item_X9_kindName
set_option maxRecDepth 20000 in
theorem ggX9_item_X9_isWord : GoodIn wsX9_item wsX9_isWord := goodIn_r _ [10, 11, 12, 13, 14, 5, 15, 16, 17, 18, 19, 20, 21, 22, 23, 24, 25, 26, 27, 28, 29, 30, 31, 32, 33, 34, 35, 36, 37, 38, 39, 40, 41, 42, 43, 44, 45, 46, 47, 48, 49, 50, 51, 52, 53, 54, 55, 56, 57, 58, 59, 60, 61, 62, 63, 64, 65, 66, 67, 68, 69, 70, 71, 72, 73, 74, 75, 76, 77, 78, 79, 80, 144, 145, 146, 147, 148, 149, 150, 151, 152, 153, 154, 155, 156, 157, 158, 159, 160] (by decide +kernel) (by decide +kernel)
set_option maxRecDepth 20000 in
theorem gX9_item_X9_isWord : GoodIn wsX9_item (wsV RX9 201 RX9 yX9_isWord wsX9_isWord) := goodIn_app (goodIn_of _ (by decide +kernel)) ggX9_item_X9_isWord
set_option maxRecDepth 20000 in
theorem ggX9_item_X9_fails : GoodIn wsX9_item wsX9_fails := goodIn_r _ [84, 85, 11, 144, 145, 146, 147, 148, 149, 150, 151, 152, 153, 154, 155, 156, 157, 158, 159, 160] (by decide +kernel) (by decide +kernel)
set_option maxRecDepth 20000 in
theorem gX9_item_X9_fails : GoodIn wsX9_item (wsV RX9 208 RX9 yX9_fails wsX9_fails) := goodIn_app (goodIn_of _ (by decide +kernel)) ggX9_item_X9_fails
set_option maxRecDepth 20000 in
theorem ggX9_item_X9_takes : GoodIn wsX9_item wsX9_takes := goodIn_r _ [89, 85, 11, 7, 8, 9, 5, 10, 12, 13, 14, 15, 16, 17, 18, 19, 20, 21, 22, 23, 24, 25, 26, 27, 28, 29, 30, 31, 32, 33, 34, 35, 36, 37, 38, 39, 40, 41, 42, 43, 44, 45, 46, 47, 48, 49, 50, 51, 52, 53, 54, 55, 56, 57, 58, 59, 60, 61, 62, 63, 64, 65, 66, 67, 68, 69, 70, 71, 72, 73, 74, 75, 76, 77, 78, 79, 80, 144, 145, 146, 147, 148, 149, 150, 151, 152, 153, 154, 155, 156, 157, 158, 159, 160] (by decide +kernel) (by decide +kernel)
set_option maxRecDepth 20000 in
theorem gX9_item_X9_takes : GoodIn wsX9_item (wsV RX9 205 RX9 yX9_takes wsX9_takes) := goodIn_app (goodIn_of _ (by decide +kernel)) ggX9_item_X9_takes
set_option maxRecDepth 20000 in
theorem ggX9_item_X9_beingTold : GoodIn wsX9_item wsX9_beingTold := goodIn_r _ [93, 2, 85, 94, 95, 96, 5, 97, 98, 99, 100, 101, 86, 87, 88, 89, 11, 7, 8, 9, 10, 12, 13, 14, 15, 16, 17, 18, 19, 20, 21, 22, 23, 24, 25, 26, 27, 28, 29, 30, 31, 32, 33, 34, 35, 36, 37, 38, 39, 40, 41, 42, 43, 44, 45, 46, 47, 48, 49, 50, 51, 52, 53, 54, 55, 56, 57, 58, 59, 60, 61, 62, 63, 64, 65, 66, 67, 68, 69, 70, 71, 72, 73, 74, 75, 76, 77, 78, 79, 80, 81, 82, 83, 84, 102, 103, 104, 105, 106, 107, 108, 109, 110, 111, 112, 113, 114, 115, 116, 117, 118, 119, 120, 121, 122, 123, 1, 124, 125, 126, 127, 144, 145, 146, 147, 148, 149, 150, 151, 152, 153, 154, 155, 156, 157, 158, 159, 160] (by decide +kernel) (by decide +kernel)
set_option maxRecDepth 20000 in
theorem gX9_item_X9_beingTold : GoodIn wsX9_item (wsV RX9 269 RX9 yX9_beingTold wsX9_beingTold) := goodIn_app (goodIn_of _ (by decide +kernel)) ggX9_item_X9_beingTold
set_option maxRecDepth 20000 in
theorem ggX9_item_X9_taskTold : GoodIn wsX9_item wsX9_taskTold := goodIn_r _ [131, 2, 94, 95, 96, 5, 97, 98, 99, 100, 101, 86, 87, 88, 89, 85, 11, 7, 8, 9, 10, 12, 13, 14, 15, 16, 17, 18, 19, 20, 21, 22, 23, 24, 25, 26, 27, 28, 29, 30, 31, 32, 33, 34, 35, 36, 37, 38, 39, 40, 41, 42, 43, 44, 45, 46, 47, 48, 49, 50, 51, 52, 53, 54, 55, 56, 57, 58, 59, 60, 61, 62, 63, 64, 65, 66, 67, 68, 69, 70, 71, 72, 73, 74, 75, 76, 77, 78, 79, 80, 81, 82, 83, 84, 102, 103, 104, 105, 106, 107, 108, 109, 110, 111, 112, 113, 114, 115, 132, 133, 134, 135, 1, 144, 145, 146, 147, 148, 149, 150, 151, 152, 153, 154, 155, 156, 157, 158, 159, 160] (by decide +kernel) (by decide +kernel)
set_option maxRecDepth 20000 in
theorem gX9_item_X9_taskTold : GoodIn wsX9_item (wsV RX9 274 RX9 yX9_taskTold wsX9_taskTold) := goodIn_app (goodIn_of _ (by decide +kernel)) ggX9_item_X9_taskTold
set_option maxRecDepth 20000 in
theorem ggX9_item_X9_bowlTold : GoodIn wsX9_item wsX9_bowlTold := goodIn_r _ [139, 2, 1, 102, 103, 104, 5, 105, 85, 11, 106, 107, 108, 109, 110, 111, 112, 12, 13, 14, 15, 16, 17, 18, 19, 20, 21, 113, 114, 115, 29, 30, 31, 81, 82, 83, 84, 144, 145, 146, 147, 148, 149, 150, 151, 152, 153, 154, 155, 156, 157, 158, 159, 160] (by decide +kernel) (by decide +kernel)
set_option maxRecDepth 20000 in
theorem gX9_item_X9_bowlTold : GoodIn wsX9_item (wsV RX9 279 RX9 yX9_bowlTold wsX9_bowlTold) := goodIn_app (goodIn_of _ (by decide +kernel)) ggX9_item_X9_bowlTold
set_option maxRecDepth 20000 in
theorem ggX9_item_X9_must : GoodIn wsX9_item wsX9_must := goodIn_r _ [101, 86, 87, 88, 5, 89, 85, 11, 7, 8, 9, 10, 12, 13, 14, 15, 16, 17, 18, 19, 20, 21, 22, 23, 24, 25, 26, 27, 28, 29, 30, 31, 32, 33, 34, 35, 36, 37, 38, 39, 40, 41, 42, 43, 44, 45, 46, 47, 48, 49, 50, 51, 52, 53, 54, 55, 56, 57, 58, 59, 60, 61, 62, 63, 64, 65, 66, 67, 68, 69, 70, 71, 72, 73, 74, 75, 76, 77, 78, 79, 80, 81, 82, 83, 84, 144, 145, 146, 147, 148, 149, 150, 151, 152, 153, 154, 155, 156, 157, 158, 159, 160] (by decide +kernel) (by decide +kernel)
set_option maxRecDepth 20000 in
theorem gX9_item_X9_must : GoodIn wsX9_item (wsV RX9 241 RX9 yX9_must wsX9_must) := goodIn_app (goodIn_of _ (by decide +kernel)) ggX9_item_X9_must
set_option maxRecDepth 20000 in
theorem ggX9_item_X9_number : GoodIn wsX9_item wsX9_number := goodIn_r _ [105, 85, 11, 106, 107, 108, 109, 110, 111, 112, 2, 12, 13, 14, 5, 15, 16, 17, 18, 19, 20, 21, 113, 114, 115, 29, 30, 31, 81, 82, 83, 84, 144, 145, 146, 147, 148, 149, 150, 151, 152, 153, 154, 155, 156, 157, 158, 159, 160] (by decide +kernel) (by decide +kernel)
set_option maxRecDepth 20000 in
theorem gX9_item_X9_number : GoodIn wsX9_item (wsV RX9 244 RX9 yX9_number wsX9_number) := goodIn_app (goodIn_of _ (by decide +kernel)) ggX9_item_X9_number
set_option maxRecDepth 20000 in
theorem ggX9_item_X9_eats : GoodIn wsX9_item wsX9_eats := goodIn_r _ [143, 1, 124, 125, 126, 5, 127, 144, 145, 146, 147, 148, 149, 150, 151, 152, 153, 154, 155, 156, 157, 158, 159, 160] (by decide +kernel) (by decide +kernel)
set_option maxRecDepth 20000 in
theorem gX9_item_X9_eats : GoodIn wsX9_item (wsV RX9 105 RX9 yX9_eats wsX9_eats) := goodIn_app (goodIn_of _ (by decide +kernel)) ggX9_item_X9_eats
theorem dX9_item_0 : decode cX9_item 0 = .ok (.iconst 0, 1) := by decide +kernel
theorem dX9_item_1 : decode cX9_item 1 = .ok (.istore_n 1, 1) := by decide +kernel
theorem dX9_item_2 : decode cX9_item 2 = .ok (.iload_n 1, 1) := by decide +kernel
theorem dX9_item_3 : decode cX9_item 3 = .ok (.iconst 5, 1) := by decide +kernel
theorem dX9_item_4 : decode cX9_item 4 = .ok (.if_icmp .gt 53, 3) := by decide +kernel
theorem dX9_item_7 : decode cX9_item 7 = .ok (.aload_n 0, 1) := by decide +kernel
theorem dX9_item_8 : decode cX9_item 8 = .ok (.iload_n 1, 1) := by decide +kernel
theorem dX9_item_9 : decode cX9_item 9 = .ok (.invokestatic 265, 3) := by decide +kernel
theorem dX9_item_12 : decode cX9_item 12 = .ok (.invokevirtual 201, 3) := by decide +kernel
theorem dX9_item_15 : decode cX9_item 15 = .ok (.ifCond .eq 19, 3) := by decide +kernel
theorem dX9_item_18 : decode cX9_item 18 = .ok (.aload_n 0, 1) := by decide +kernel
theorem dX9_item_19 : decode cX9_item 19 = .ok (.getfield 9, 3) := by decide +kernel
theorem dX9_item_22 : decode cX9_item 22 = .ok (.iconst 1, 1) := by decide +kernel
theorem dX9_item_23 : decode cX9_item 23 = .ok (.iaload, 1) := by decide +kernel
theorem dX9_item_24 : decode cX9_item 24 = .ok (.bipush 10, 2) := by decide +kernel
theorem dX9_item_26 : decode cX9_item 26 = .ok (.if_icmp .ne 8, 3) := by decide +kernel
theorem dX9_item_29 : decode cX9_item 29 = .ok (.aload_n 0, 1) := by decide +kernel
theorem dX9_item_30 : decode cX9_item 30 = .ok (.invokevirtual 208, 3) := by decide +kernel
theorem dX9_item_33 : decode cX9_item 33 = .ok (.ireturn, 1) := by decide +kernel
theorem dX9_item_34 : decode cX9_item 34 = .ok (.aload_n 0, 1) := by decide +kernel
theorem dX9_item_35 : decode cX9_item 35 = .ok (.iload_n 1, 1) := by decide +kernel
theorem dX9_item_36 : decode cX9_item 36 = .ok (.invokestatic 265, 3) := by decide +kernel
theorem dX9_item_39 : decode cX9_item 39 = .ok (.invokevirtual 205, 3) := by decide +kernel
theorem dX9_item_42 : decode cX9_item 42 = .ok (.ifCond .eq 9, 3) := by decide +kernel
theorem dX9_item_45 : decode cX9_item 45 = .ok (.aload_n 0, 1) := by decide +kernel
theorem dX9_item_46 : decode cX9_item 46 = .ok (.iload_n 1, 1) := by decide +kernel
theorem dX9_item_47 : decode cX9_item 47 = .ok (.invokevirtual 269, 3) := by decide +kernel
theorem dX9_item_50 : decode cX9_item 50 = .ok (.ireturn, 1) := by decide +kernel
theorem dX9_item_51 : decode cX9_item 51 = .ok (.iinc 1 1, 3) := by decide +kernel
theorem dX9_item_54 : decode cX9_item 54 = .ok (.goto (-52), 3) := by decide +kernel
theorem dX9_item_57 : decode cX9_item 57 = .ok (.aload_n 0, 1) := by decide +kernel
theorem dX9_item_58 : decode cX9_item 58 = .ok (.ldc_w 272, 3) := by decide +kernel
theorem dX9_item_61 : decode cX9_item 61 = .ok (.invokevirtual 201, 3) := by decide +kernel
theorem dX9_item_64 : decode cX9_item 64 = .ok (.ifCond .eq 19, 3) := by decide +kernel
theorem dX9_item_67 : decode cX9_item 67 = .ok (.aload_n 0, 1) := by decide +kernel
theorem dX9_item_68 : decode cX9_item 68 = .ok (.getfield 9, 3) := by decide +kernel
theorem dX9_item_71 : decode cX9_item 71 = .ok (.iconst 2, 1) := by decide +kernel
theorem dX9_item_72 : decode cX9_item 72 = .ok (.iaload, 1) := by decide +kernel
theorem dX9_item_73 : decode cX9_item 73 = .ok (.bipush 8, 2) := by decide +kernel
theorem dX9_item_75 : decode cX9_item 75 = .ok (.if_icmp .ne 8, 3) := by decide +kernel
theorem dX9_item_78 : decode cX9_item 78 = .ok (.aload_n 0, 1) := by decide +kernel
theorem dX9_item_79 : decode cX9_item 79 = .ok (.invokevirtual 208, 3) := by decide +kernel
theorem dX9_item_82 : decode cX9_item 82 = .ok (.ireturn, 1) := by decide +kernel
theorem dX9_item_83 : decode cX9_item 83 = .ok (.aload_n 0, 1) := by decide +kernel
theorem dX9_item_84 : decode cX9_item 84 = .ok (.ldc_w 272, 3) := by decide +kernel
theorem dX9_item_87 : decode cX9_item 87 = .ok (.invokevirtual 205, 3) := by decide +kernel
theorem dX9_item_90 : decode cX9_item 90 = .ok (.ifCond .eq 8, 3) := by decide +kernel
theorem dX9_item_93 : decode cX9_item 93 = .ok (.aload_n 0, 1) := by decide +kernel
theorem dX9_item_94 : decode cX9_item 94 = .ok (.invokevirtual 274, 3) := by decide +kernel
theorem dX9_item_97 : decode cX9_item 97 = .ok (.ireturn, 1) := by decide +kernel
theorem dX9_item_98 : decode cX9_item 98 = .ok (.aload_n 0, 1) := by decide +kernel
theorem dX9_item_99 : decode cX9_item 99 = .ok (.ldc_w 277, 3) := by decide +kernel
theorem dX9_item_102 : decode cX9_item 102 = .ok (.invokevirtual 205, 3) := by decide +kernel
theorem dX9_item_105 : decode cX9_item 105 = .ok (.ifCond .eq 8, 3) := by decide +kernel
theorem dX9_item_108 : decode cX9_item 108 = .ok (.aload_n 0, 1) := by decide +kernel
theorem dX9_item_109 : decode cX9_item 109 = .ok (.invokevirtual 279, 3) := by decide +kernel
theorem dX9_item_112 : decode cX9_item 112 = .ok (.ireturn, 1) := by decide +kernel
theorem dX9_item_113 : decode cX9_item 113 = .ok (.aload_n 0, 1) := by decide +kernel
theorem dX9_item_114 : decode cX9_item 114 = .ok (.ldc_w 282, 3) := by decide +kernel
theorem dX9_item_117 : decode cX9_item 117 = .ok (.invokevirtual 241, 3) := by decide +kernel
theorem dX9_item_120 : decode cX9_item 120 = .ok (.ifCond .eq 19, 3) := by decide +kernel
theorem dX9_item_123 : decode cX9_item 123 = .ok (.aload_n 0, 1) := by decide +kernel
theorem dX9_item_124 : decode cX9_item 124 = .ok (.iconst 0, 1) := by decide +kernel
theorem dX9_item_125 : decode cX9_item 125 = .ok (.aload_n 0, 1) := by decide +kernel
theorem dX9_item_126 : decode cX9_item 126 = .ok (.getfield 9, 3) := by decide +kernel
theorem dX9_item_129 : decode cX9_item 129 = .ok (.iconst 1, 1) := by decide +kernel
theorem dX9_item_130 : decode cX9_item 130 = .ok (.iaload, 1) := by decide +kernel
theorem dX9_item_131 : decode cX9_item 131 = .ok (.iconst 1, 1) := by decide +kernel
theorem dX9_item_132 : decode cX9_item 132 = .ok (.isub, 1) := by decide +kernel
theorem dX9_item_133 : decode cX9_item 133 = .ok (.invokevirtual 244, 3) := by decide +kernel
theorem dX9_item_136 : decode cX9_item 136 = .ok (.ifCond .ne 5, 3) := by decide +kernel
theorem dX9_item_139 : decode cX9_item 139 = .ok (.iconst 0, 1) := by decide +kernel
theorem dX9_item_140 : decode cX9_item 140 = .ok (.ireturn, 1) := by decide +kernel
theorem dX9_item_141 : decode cX9_item 141 = .ok (.aload_n 0, 1) := by decide +kernel
theorem dX9_item_142 : decode cX9_item 142 = .ok (.getfield 226, 3) := by decide +kernel
theorem dX9_item_145 : decode cX9_item 145 = .ok (.istore_n 1, 1) := by decide +kernel
theorem dX9_item_146 : decode cX9_item 146 = .ok (.aload_n 0, 1) := by decide +kernel
theorem dX9_item_147 : decode cX9_item 147 = .ok (.iconst 0, 1) := by decide +kernel
theorem dX9_item_148 : decode cX9_item 148 = .ok (.bipush 99, 2) := by decide +kernel
theorem dX9_item_150 : decode cX9_item 150 = .ok (.invokevirtual 244, 3) := by decide +kernel
theorem dX9_item_153 : decode cX9_item 153 = .ok (.ifCond .ne 5, 3) := by decide +kernel
theorem dX9_item_156 : decode cX9_item 156 = .ok (.iconst 0, 1) := by decide +kernel
theorem dX9_item_157 : decode cX9_item 157 = .ok (.ireturn, 1) := by decide +kernel
theorem dX9_item_158 : decode cX9_item 158 = .ok (.aload_n 0, 1) := by decide +kernel
theorem dX9_item_159 : decode cX9_item 159 = .ok (.iload_n 1, 1) := by decide +kernel
theorem dX9_item_160 : decode cX9_item 160 = .ok (.aload_n 0, 1) := by decide +kernel
theorem dX9_item_161 : decode cX9_item 161 = .ok (.getfield 226, 3) := by decide +kernel
theorem dX9_item_164 : decode cX9_item 164 = .ok (.invokevirtual 105, 3) := by decide +kernel
theorem dX9_item_167 : decode cX9_item 167 = .ok (.iconst 1, 1) := by decide +kernel
theorem dX9_item_168 : decode cX9_item 168 = .ok (.ireturn, 1) := by decide +kernel
set_option maxRecDepth 20000 in
theorem ggX9_night_X9_lay : GoodIn wsX9_night wsX9_lay := goodIn_r _ [9] (by decide +kernel) (by decide +kernel)
set_option maxRecDepth 20000 in
theorem gX9_night_X9_lay : GoodIn wsX9_night (va_wsS RX9 119 yX9_lay wsX9_lay) := goodIn_app (goodIn_of _ (by decide +kernel)) ggX9_night_X9_lay
set_option maxRecDepth 20000 in
theorem ggX9_night_X9_item : GoodIn wsX9_night wsX9_item := goodIn_r _ [13, 3, 14, 15, 16, 8, 17, 18, 19, 20, 21, 1, 22, 23, 24, 25, 26, 27, 28, 29, 5, 30, 31, 32, 33, 34, 35, 36, 37, 38, 39, 40, 41, 42, 43, 44, 45, 46, 47, 48, 49, 50, 51, 52, 53, 54, 55, 56, 57, 58, 59, 60, 61, 62, 63, 64, 65, 66, 67, 68, 69, 70, 71, 72, 73, 74, 75, 76, 77, 78, 79, 80, 81, 82, 83, 84, 85, 86, 87, 88, 89, 90, 91, 92, 93, 2, 94, 95, 96, 97, 98, 99, 100, 101, 102, 103, 104, 105, 106, 107, 108, 109, 110, 111, 112, 113, 114, 115, 116, 117, 118, 119, 120, 121, 122, 123, 124, 125, 126, 127, 128, 129, 130, 131, 132, 133, 134, 135, 136, 137, 138, 139, 140, 141, 142, 143, 144, 145, 146, 147, 148, 149, 150, 151, 152, 153, 154, 155, 156, 157, 158, 159, 160, 161, 162, 163, 164, 165, 166, 167, 168] (by decide +kernel) (by decide +kernel)
set_option maxRecDepth 20000 in
theorem gX9_night_X9_item : GoodIn wsX9_night (wsV RX9 284 RX9 yX9_item wsX9_item) := goodIn_app (goodIn_of _ (by decide +kernel)) ggX9_night_X9_item
set_option maxRecDepth 20000 in
theorem ggX9_night_X9_blanks : GoodIn wsX9_night wsX9_blanks := goodIn_r _ [25, 1, 26, 27, 28, 8, 29, 5, 30, 152, 153, 154, 155, 156, 157, 158, 159, 160, 161, 162, 163, 164, 165, 166, 167, 168] (by decide +kernel) (by decide +kernel)
set_option maxRecDepth 20000 in
theorem gX9_night_X9_blanks : GoodIn wsX9_night (wsV RX9 186 RX9 yX9_blanks wsX9_blanks) := goodIn_app (goodIn_of _ (by decide +kernel)) ggX9_night_X9_blanks
set_option maxRecDepth 20000 in
theorem ggX9_night_X9_byteAt : GoodIn wsX9_night wsX9_byteAt := goodIn_r _ [29, 5, 30, 152, 153, 154, 155, 156, 157, 158, 159, 160, 161, 162, 163, 164, 165, 166, 167, 168] (by decide +kernel) (by decide +kernel)
set_option maxRecDepth 20000 in
theorem gX9_night_X9_byteAt : GoodIn wsX9_night (wsV RX9 177 RX9 yX9_byteAt wsX9_byteAt) := goodIn_app (goodIn_of _ (by decide +kernel)) ggX9_night_X9_byteAt
set_option maxRecDepth 20000 in
theorem ggX9_night_X9_fails : GoodIn wsX9_night wsX9_fails := goodIn_r _ [93, 2, 1, 152, 153, 154, 155, 156, 157, 158, 159, 160, 161, 162, 163, 164, 165, 166, 167, 168] (by decide +kernel) (by decide +kernel)
set_option maxRecDepth 20000 in
theorem gX9_night_X9_fails : GoodIn wsX9_night (wsV RX9 208 RX9 yX9_fails wsX9_fails) := goodIn_app (goodIn_of _ (by decide +kernel)) ggX9_night_X9_fails
theorem dX9_night_0 : decode cX9_night 0 = .ok (.aload_n 0, 1) := by decide +kernel
theorem dX9_night_1 : decode cX9_night 1 = .ok (.iconst 0, 1) := by decide +kernel
theorem dX9_night_2 : decode cX9_night 2 = .ok (.putfield 174, 3) := by decide +kernel
theorem dX9_night_5 : decode cX9_night 5 = .ok (.aload_n 0, 1) := by decide +kernel
theorem dX9_night_6 : decode cX9_night 6 = .ok (.iconst (-1), 1) := by decide +kernel
theorem dX9_night_7 : decode cX9_night 7 = .ok (.putfield 180, 3) := by decide +kernel
theorem dX9_night_10 : decode cX9_night 10 = .ok (.aload_n 0, 1) := by decide +kernel
theorem dX9_night_11 : decode cX9_night 11 = .ok (.getfield 9, 3) := by decide +kernel
theorem dX9_night_14 : decode cX9_night 14 = .ok (.aload_n 0, 1) := by decide +kernel
theorem dX9_night_15 : decode cX9_night 15 = .ok (.getfield 16, 3) := by decide +kernel
theorem dX9_night_18 : decode cX9_night 18 = .ok (.invokestatic 119, 3) := by decide +kernel
theorem dX9_night_21 : decode cX9_night 21 = .ok (.iconst 0, 1) := by decide +kernel
theorem dX9_night_22 : decode cX9_night 22 = .ok (.istore_n 1, 1) := by decide +kernel
theorem dX9_night_23 : decode cX9_night 23 = .ok (.iconst 1, 1) := by decide +kernel
theorem dX9_night_24 : decode cX9_night 24 = .ok (.istore_n 2, 1) := by decide +kernel
theorem dX9_night_25 : decode cX9_night 25 = .ok (.iload_n 2, 1) := by decide +kernel
theorem dX9_night_26 : decode cX9_night 26 = .ok (.ifCond .eq 57, 3) := by decide +kernel
theorem dX9_night_29 : decode cX9_night 29 = .ok (.aload_n 0, 1) := by decide +kernel
theorem dX9_night_30 : decode cX9_night 30 = .ok (.invokevirtual 284, 3) := by decide +kernel
theorem dX9_night_33 : decode cX9_night 33 = .ok (.ifCond .eq 50, 3) := by decide +kernel
theorem dX9_night_36 : decode cX9_night 36 = .ok (.iinc 1 1, 3) := by decide +kernel
theorem dX9_night_39 : decode cX9_night 39 = .ok (.aload_n 0, 1) := by decide +kernel
theorem dX9_night_40 : decode cX9_night 40 = .ok (.invokevirtual 186, 3) := by decide +kernel
theorem dX9_night_43 : decode cX9_night 43 = .ok (.aload_n 0, 1) := by decide +kernel
theorem dX9_night_44 : decode cX9_night 44 = .ok (.aload_n 0, 1) := by decide +kernel
theorem dX9_night_45 : decode cX9_night 45 = .ok (.getfield 174, 3) := by decide +kernel
theorem dX9_night_48 : decode cX9_night 48 = .ok (.invokevirtual 177, 3) := by decide +kernel
theorem dX9_night_51 : decode cX9_night 51 = .ok (.bipush 59, 2) := by decide +kernel
theorem dX9_night_53 : decode cX9_night 53 = .ok (.if_icmp .ne 7, 3) := by decide +kernel
theorem dX9_night_56 : decode cX9_night 56 = .ok (.iconst 1, 1) := by decide +kernel
theorem dX9_night_57 : decode cX9_night 57 = .ok (.goto 4, 3) := by decide +kernel
theorem dX9_night_60 : decode cX9_night 60 = .ok (.iconst 0, 1) := by decide +kernel
theorem dX9_night_61 : decode cX9_night 61 = .ok (.istore_n 2, 1) := by decide +kernel
theorem dX9_night_62 : decode cX9_night 62 = .ok (.aload_n 0, 1) := by decide +kernel
theorem dX9_night_63 : decode cX9_night 63 = .ok (.dup, 1) := by decide +kernel
theorem dX9_night_64 : decode cX9_night 64 = .ok (.getfield 174, 3) := by decide +kernel
theorem dX9_night_67 : decode cX9_night 67 = .ok (.iload_n 2, 1) := by decide +kernel
theorem dX9_night_68 : decode cX9_night 68 = .ok (.ifCond .eq 7, 3) := by decide +kernel
theorem dX9_night_71 : decode cX9_night 71 = .ok (.iconst 1, 1) := by decide +kernel
theorem dX9_night_72 : decode cX9_night 72 = .ok (.goto 4, 3) := by decide +kernel
theorem dX9_night_75 : decode cX9_night 75 = .ok (.iconst 0, 1) := by decide +kernel
theorem dX9_night_76 : decode cX9_night 76 = .ok (.iadd, 1) := by decide +kernel
theorem dX9_night_77 : decode cX9_night 77 = .ok (.putfield 174, 3) := by decide +kernel
theorem dX9_night_80 : decode cX9_night 80 = .ok (.goto (-55), 3) := by decide +kernel
theorem dX9_night_83 : decode cX9_night 83 = .ok (.aload_n 0, 1) := by decide +kernel
theorem dX9_night_84 : decode cX9_night 84 = .ok (.getfield 180, 3) := by decide +kernel
theorem dX9_night_87 : decode cX9_night 87 = .ok (.ifCond .ge 19, 3) := by decide +kernel
theorem dX9_night_90 : decode cX9_night 90 = .ok (.aload_n 0, 1) := by decide +kernel
theorem dX9_night_91 : decode cX9_night 91 = .ok (.getfield 174, 3) := by decide +kernel
theorem dX9_night_94 : decode cX9_night 94 = .ok (.aload_n 0, 1) := by decide +kernel
theorem dX9_night_95 : decode cX9_night 95 = .ok (.getfield 170, 3) := by decide +kernel
theorem dX9_night_98 : decode cX9_night 98 = .ok (.if_icmp .ge 8, 3) := by decide +kernel
theorem dX9_night_101 : decode cX9_night 101 = .ok (.aload_n 0, 1) := by decide +kernel
theorem dX9_night_102 : decode cX9_night 102 = .ok (.invokevirtual 208, 3) := by decide +kernel
theorem dX9_night_105 : decode cX9_night 105 = .ok (.pop, 1) := by decide +kernel
theorem dX9_night_106 : decode cX9_night 106 = .ok (.aload_n 0, 1) := by decide +kernel
theorem dX9_night_107 : decode cX9_night 107 = .ok (.iconst 0, 1) := by decide +kernel
theorem dX9_night_108 : decode cX9_night 108 = .ok (.putfield 170, 3) := by decide +kernel
theorem dX9_night_111 : decode cX9_night 111 = .ok (.aload_n 0, 1) := by decide +kernel
theorem dX9_night_112 : decode cX9_night 112 = .ok (.getfield 180, 3) := by decide +kernel
theorem dX9_night_115 : decode cX9_night 115 = .ok (.ifCond .lt 21, 3) := by decide +kernel
theorem dX9_night_118 : decode cX9_night 118 = .ok (.aload_n 0, 1) := by decide +kernel
theorem dX9_night_119 : decode cX9_night 119 = .ok (.getfield 16, 3) := by decide +kernel
theorem dX9_night_122 : decode cX9_night 122 = .ok (.aload_n 0, 1) := by decide +kernel
theorem dX9_night_123 : decode cX9_night 123 = .ok (.getfield 9, 3) := by decide +kernel
theorem dX9_night_126 : decode cX9_night 126 = .ok (.invokestatic 119, 3) := by decide +kernel
theorem dX9_night_129 : decode cX9_night 129 = .ok (.iconst (-1), 1) := by decide +kernel
theorem dX9_night_130 : decode cX9_night 130 = .ok (.aload_n 0, 1) := by decide +kernel
theorem dX9_night_131 : decode cX9_night 131 = .ok (.getfield 180, 3) := by decide +kernel
theorem dX9_night_134 : decode cX9_night 134 = .ok (.isub, 1) := by decide +kernel
theorem dX9_night_135 : decode cX9_night 135 = .ok (.ireturn, 1) := by decide +kernel
theorem dX9_night_136 : decode cX9_night 136 = .ok (.iload_n 1, 1) := by decide +kernel
theorem dX9_night_137 : decode cX9_night 137 = .ok (.ireturn, 1) := by decide +kernel
set_option maxRecDepth 20000 in
theorem ggX9_isSheet_X9_in : GoodIn wsX9_isSheet wsX9_in := goodIn_r _ [4] (by decide +kernel) (by decide +kernel)
set_option maxRecDepth 20000 in
theorem gX9_isSheet_X9_in : GoodIn wsX9_isSheet (va_wsS RX9 48 yX9_in wsX9_in) := goodIn_app (goodIn_of _ (by decide +kernel)) ggX9_isSheet_X9_in
theorem dX9_isSheet_0 : decode cX9_isSheet 0 = .ok (.iload_n 0, 1) := by decide +kernel
theorem dX9_isSheet_1 : decode cX9_isSheet 1 = .ok (.iconst 0, 1) := by decide +kernel
theorem dX9_isSheet_2 : decode cX9_isSheet 2 = .ok (.iconst 3, 1) := by decide +kernel
theorem dX9_isSheet_3 : decode cX9_isSheet 3 = .ok (.invokestatic 48, 3) := by decide +kernel
theorem dX9_isSheet_6 : decode cX9_isSheet 6 = .ok (.ireturn, 1) := by decide +kernel
set_option maxRecDepth 20000 in
theorem ggX9_sheet_X9_isSheet : GoodIn wsX9_sheet wsX9_isSheet := goodIn_r _ [7, 8, 9, 6, 10] (by decide +kernel) (by decide +kernel)
set_option maxRecDepth 20000 in
theorem gX9_sheet_X9_isSheet : GoodIn wsX9_sheet (va_wsS RX9 287 yX9_isSheet wsX9_isSheet) := goodIn_app (goodIn_of _ (by decide +kernel)) ggX9_sheet_X9_isSheet
set_option maxRecDepth 20000 in
theorem ggX9_sheet_X9_no : GoodIn wsX9_sheet wsX9_no := goodIn_r _ [14, 15, 16, 17, 18, 19, 20, 21, 22, 23, 24, 25, 26, 27, 28, 29, 30, 31, 32, 33] (by decide +kernel) (by decide +kernel)
set_option maxRecDepth 20000 in
theorem gX9_sheet_X9_no : GoodIn wsX9_sheet (wsV RX9 82 RX9 yX9_no wsX9_no) := goodIn_app (goodIn_of _ (by decide +kernel)) ggX9_sheet_X9_no
theorem dX9_sheet_0 : decode cX9_sheet 0 = .ok (.iload_n 1, 1) := by decide +kernel
theorem dX9_sheet_1 : decode cX9_sheet 1 = .ok (.invokestatic 287, 3) := by decide +kernel
theorem dX9_sheet_4 : decode cX9_sheet 4 = .ok (.ifCond .eq 25, 3) := by decide +kernel
theorem dX9_sheet_7 : decode cX9_sheet 7 = .ok (.iload_n 2, 1) := by decide +kernel
theorem dX9_sheet_8 : decode cX9_sheet 8 = .ok (.ifCond .eq 27, 3) := by decide +kernel
theorem dX9_sheet_11 : decode cX9_sheet 11 = .ok (.iload_n 2, 1) := by decide +kernel
theorem dX9_sheet_12 : decode cX9_sheet 12 = .ok (.bipush 8, 2) := by decide +kernel
theorem dX9_sheet_14 : decode cX9_sheet 14 = .ok (.if_icmp .eq 21, 3) := by decide +kernel
theorem dX9_sheet_17 : decode cX9_sheet 17 = .ok (.iload_n 2, 1) := by decide +kernel
theorem dX9_sheet_18 : decode cX9_sheet 18 = .ok (.bipush 16, 2) := by decide +kernel
theorem dX9_sheet_20 : decode cX9_sheet 20 = .ok (.if_icmp .eq 15, 3) := by decide +kernel
theorem dX9_sheet_23 : decode cX9_sheet 23 = .ok (.iload_n 2, 1) := by decide +kernel
theorem dX9_sheet_24 : decode cX9_sheet 24 = .ok (.bipush 64, 2) := by decide +kernel
theorem dX9_sheet_26 : decode cX9_sheet 26 = .ok (.if_icmp .eq 9, 3) := by decide +kernel
theorem dX9_sheet_29 : decode cX9_sheet 29 = .ok (.aload_n 0, 1) := by decide +kernel
theorem dX9_sheet_30 : decode cX9_sheet 30 = .ok (.iconst 0, 1) := by decide +kernel
theorem dX9_sheet_31 : decode cX9_sheet 31 = .ok (.invokevirtual 82, 3) := by decide +kernel
theorem dX9_sheet_34 : decode cX9_sheet 34 = .ok (.ireturn, 1) := by decide +kernel
theorem dX9_sheet_35 : decode cX9_sheet 35 = .ok (.iload_n 3, 1) := by decide +kernel
theorem dX9_sheet_36 : decode cX9_sheet 36 = .ok (.ifCond .ge 10, 3) := by decide +kernel
theorem dX9_sheet_39 : decode cX9_sheet 39 = .ok (.aload_n 0, 1) := by decide +kernel
theorem dX9_sheet_40 : decode cX9_sheet 40 = .ok (.bipush 6, 2) := by decide +kernel
theorem dX9_sheet_42 : decode cX9_sheet 42 = .ok (.invokevirtual 82, 3) := by decide +kernel
theorem dX9_sheet_45 : decode cX9_sheet 45 = .ok (.ireturn, 1) := by decide +kernel
theorem dX9_sheet_46 : decode cX9_sheet 46 = .ok (.iload_n 3, 1) := by decide +kernel
theorem dX9_sheet_47 : decode cX9_sheet 47 = .ok (.bipush 40, 2) := by decide +kernel
theorem dX9_sheet_49 : decode cX9_sheet 49 = .ok (.if_icmp .le 9, 3) := by decide +kernel
theorem dX9_sheet_52 : decode cX9_sheet 52 = .ok (.aload_n 0, 1) := by decide +kernel
theorem dX9_sheet_53 : decode cX9_sheet 53 = .ok (.iconst 0, 1) := by decide +kernel
theorem dX9_sheet_54 : decode cX9_sheet 54 = .ok (.invokevirtual 82, 3) := by decide +kernel
theorem dX9_sheet_57 : decode cX9_sheet 57 = .ok (.ireturn, 1) := by decide +kernel
theorem dX9_sheet_58 : decode cX9_sheet 58 = .ok (.aload_n 0, 1) := by decide +kernel
theorem dX9_sheet_59 : decode cX9_sheet 59 = .ok (.getfield 34, 3) := by decide +kernel
theorem dX9_sheet_62 : decode cX9_sheet 62 = .ok (.iload_n 1, 1) := by decide +kernel
theorem dX9_sheet_63 : decode cX9_sheet 63 = .ok (.iload_n 2, 1) := by decide +kernel
theorem dX9_sheet_64 : decode cX9_sheet 64 = .ok (.iastore, 1) := by decide +kernel
theorem dX9_sheet_65 : decode cX9_sheet 65 = .ok (.aload_n 0, 1) := by decide +kernel
theorem dX9_sheet_66 : decode cX9_sheet 66 = .ok (.getfield 37, 3) := by decide +kernel
theorem dX9_sheet_69 : decode cX9_sheet 69 = .ok (.iload_n 1, 1) := by decide +kernel
theorem dX9_sheet_70 : decode cX9_sheet 70 = .ok (.iload_n 2, 1) := by decide +kernel
theorem dX9_sheet_71 : decode cX9_sheet 71 = .ok (.ifCond .ne 7, 3) := by decide +kernel
theorem dX9_sheet_74 : decode cX9_sheet 74 = .ok (.iconst 0, 1) := by decide +kernel
theorem dX9_sheet_75 : decode cX9_sheet 75 = .ok (.goto 4, 3) := by decide +kernel
theorem dX9_sheet_78 : decode cX9_sheet 78 = .ok (.iload_n 3, 1) := by decide +kernel
theorem dX9_sheet_79 : decode cX9_sheet 79 = .ok (.iastore, 1) := by decide +kernel
theorem dX9_sheet_80 : decode cX9_sheet 80 = .ok (.iconst 0, 1) := by decide +kernel
theorem dX9_sheet_81 : decode cX9_sheet 81 = .ok (.istore 4, 2) := by decide +kernel
theorem dX9_sheet_83 : decode cX9_sheet 83 = .ok (.iload 4, 2) := by decide +kernel
theorem dX9_sheet_85 : decode cX9_sheet 85 = .ok (.bipush 40, 2) := by decide +kernel
theorem dX9_sheet_87 : decode cX9_sheet 87 = .ok (.if_icmp .ge 22, 3) := by decide +kernel
theorem dX9_sheet_90 : decode cX9_sheet 90 = .ok (.aload_n 0, 1) := by decide +kernel
theorem dX9_sheet_91 : decode cX9_sheet 91 = .ok (.getfield 40, 3) := by decide +kernel
theorem dX9_sheet_94 : decode cX9_sheet 94 = .ok (.bipush 40, 2) := by decide +kernel
theorem dX9_sheet_96 : decode cX9_sheet 96 = .ok (.iload_n 1, 1) := by decide +kernel
theorem dX9_sheet_97 : decode cX9_sheet 97 = .ok (.imul, 1) := by decide +kernel
theorem dX9_sheet_98 : decode cX9_sheet 98 = .ok (.iload 4, 2) := by decide +kernel
theorem dX9_sheet_100 : decode cX9_sheet 100 = .ok (.iadd, 1) := by decide +kernel
theorem dX9_sheet_101 : decode cX9_sheet 101 = .ok (.lconst 0, 1) := by decide +kernel
theorem dX9_sheet_102 : decode cX9_sheet 102 = .ok (.lastore, 1) := by decide +kernel
theorem dX9_sheet_103 : decode cX9_sheet 103 = .ok (.iinc 4 1, 3) := by decide +kernel
theorem dX9_sheet_106 : decode cX9_sheet 106 = .ok (.goto (-23), 3) := by decide +kernel
theorem dX9_sheet_109 : decode cX9_sheet 109 = .ok (.aload_n 0, 1) := by decide +kernel
theorem dX9_sheet_110 : decode cX9_sheet 110 = .ok (.getfield 37, 3) := by decide +kernel
theorem dX9_sheet_113 : decode cX9_sheet 113 = .ok (.iload_n 1, 1) := by decide +kernel
theorem dX9_sheet_114 : decode cX9_sheet 114 = .ok (.iaload, 1) := by decide +kernel
theorem dX9_sheet_115 : decode cX9_sheet 115 = .ok (.ireturn, 1) := by decide +kernel
theorem dX9_writes_0 : decode cX9_writes 0 = .ok (.aload_n 0, 1) := by decide +kernel
theorem dX9_writes_1 : decode cX9_writes 1 = .ok (.getfield 40, 3) := by decide +kernel
theorem dX9_writes_4 : decode cX9_writes 4 = .ok (.bipush 40, 2) := by decide +kernel
theorem dX9_writes_6 : decode cX9_writes 6 = .ok (.iload_n 1, 1) := by decide +kernel
theorem dX9_writes_7 : decode cX9_writes 7 = .ok (.imul, 1) := by decide +kernel
theorem dX9_writes_8 : decode cX9_writes 8 = .ok (.iload_n 2, 1) := by decide +kernel
theorem dX9_writes_9 : decode cX9_writes 9 = .ok (.iadd, 1) := by decide +kernel
theorem dX9_writes_10 : decode cX9_writes 10 = .ok (.aload_n 0, 1) := by decide +kernel
theorem dX9_writes_11 : decode cX9_writes 11 = .ok (.getfield 34, 3) := by decide +kernel
theorem dX9_writes_14 : decode cX9_writes 14 = .ok (.iload_n 1, 1) := by decide +kernel
theorem dX9_writes_15 : decode cX9_writes 15 = .ok (.iaload, 1) := by decide +kernel
theorem dX9_writes_16 : decode cX9_writes 16 = .ok (.bipush 8, 2) := by decide +kernel
theorem dX9_writes_18 : decode cX9_writes 18 = .ok (.if_icmp .ne 10, 3) := by decide +kernel
theorem dX9_writes_21 : decode cX9_writes 21 = .ok (.lload_n 3, 1) := by decide +kernel
theorem dX9_writes_22 : decode cX9_writes 22 = .ok (.l2i, 1) := by decide +kernel
theorem dX9_writes_23 : decode cX9_writes 23 = .ok (.i2b, 1) := by decide +kernel
theorem dX9_writes_24 : decode cX9_writes 24 = .ok (.i2l, 1) := by decide +kernel
theorem dX9_writes_25 : decode cX9_writes 25 = .ok (.goto 22, 3) := by decide +kernel
theorem dX9_writes_28 : decode cX9_writes 28 = .ok (.aload_n 0, 1) := by decide +kernel
theorem dX9_writes_29 : decode cX9_writes 29 = .ok (.getfield 34, 3) := by decide +kernel
theorem dX9_writes_32 : decode cX9_writes 32 = .ok (.iload_n 1, 1) := by decide +kernel
theorem dX9_writes_33 : decode cX9_writes 33 = .ok (.iaload, 1) := by decide +kernel
theorem dX9_writes_34 : decode cX9_writes 34 = .ok (.bipush 16, 2) := by decide +kernel
theorem dX9_writes_36 : decode cX9_writes 36 = .ok (.if_icmp .ne 10, 3) := by decide +kernel
theorem dX9_writes_39 : decode cX9_writes 39 = .ok (.lload_n 3, 1) := by decide +kernel
theorem dX9_writes_40 : decode cX9_writes 40 = .ok (.l2i, 1) := by decide +kernel
theorem dX9_writes_41 : decode cX9_writes 41 = .ok (.i2s, 1) := by decide +kernel
theorem dX9_writes_42 : decode cX9_writes 42 = .ok (.i2l, 1) := by decide +kernel
theorem dX9_writes_43 : decode cX9_writes 43 = .ok (.goto 4, 3) := by decide +kernel
theorem dX9_writes_46 : decode cX9_writes 46 = .ok (.lload_n 3, 1) := by decide +kernel
theorem dX9_writes_47 : decode cX9_writes 47 = .ok (.lastore, 1) := by decide +kernel
theorem dX9_writes_48 : decode cX9_writes 48 = .ok (.return_, 1) := by decide +kernel
set_option maxRecDepth 20000 in
theorem ggX9_write_X9_isSheet : GoodIn wsX9_write wsX9_isSheet := goodIn_r _ [7, 8, 9, 6, 10] (by decide +kernel) (by decide +kernel)
set_option maxRecDepth 20000 in
theorem gX9_write_X9_isSheet : GoodIn wsX9_write (va_wsS RX9 287 yX9_isSheet wsX9_isSheet) := goodIn_app (goodIn_of _ (by decide +kernel)) ggX9_write_X9_isSheet
set_option maxRecDepth 20000 in
theorem ggX9_write_X9_no : GoodIn wsX9_write wsX9_no := goodIn_r _ [14, 15, 16, 21, 22, 23, 24, 25, 26, 27, 28, 29, 30, 31, 32, 33, 34, 35, 36, 37] (by decide +kernel) (by decide +kernel)
set_option maxRecDepth 20000 in
theorem gX9_write_X9_no : GoodIn wsX9_write (wsV RX9 82 RX9 yX9_no wsX9_no) := goodIn_app (goodIn_of _ (by decide +kernel)) ggX9_write_X9_no
set_option maxRecDepth 20000 in
theorem ggX9_write_X9_in : GoodIn wsX9_write wsX9_in := goodIn_r _ [10] (by decide +kernel) (by decide +kernel)
set_option maxRecDepth 20000 in
theorem gX9_write_X9_in : GoodIn wsX9_write (va_wsS RX9 48 yX9_in wsX9_in) := goodIn_app (goodIn_of _ (by decide +kernel)) ggX9_write_X9_in
set_option maxRecDepth 20000 in
theorem ggX9_write_X9_writes : GoodIn wsX9_write wsX9_writes := goodIn_r _ [20, 3, 1, 21, 22, 23, 24, 25, 26, 27, 28, 29, 30, 31, 32, 33, 34, 35, 36, 37] (by decide +kernel) (by decide +kernel)
set_option maxRecDepth 20000 in
theorem gX9_write_X9_writes : GoodIn wsX9_write (wsV RX9 290 RX9 yX9_writes wsX9_writes) := goodIn_app (goodIn_of _ (by decide +kernel)) ggX9_write_X9_writes
theorem dX9_write_0 : decode cX9_write 0 = .ok (.iload_n 1, 1) := by decide +kernel
theorem dX9_write_1 : decode cX9_write 1 = .ok (.invokestatic 287, 3) := by decide +kernel
theorem dX9_write_4 : decode cX9_write 4 = .ok (.ifCond .ne 10, 3) := by decide +kernel
theorem dX9_write_7 : decode cX9_write 7 = .ok (.aload_n 0, 1) := by decide +kernel
theorem dX9_write_8 : decode cX9_write 8 = .ok (.iconst 0, 1) := by decide +kernel
theorem dX9_write_9 : decode cX9_write 9 = .ok (.invokevirtual 82, 3) := by decide +kernel
theorem dX9_write_12 : decode cX9_write 12 = .ok (.i2l, 1) := by decide +kernel
theorem dX9_write_13 : decode cX9_write 13 = .ok (.lreturn, 1) := by decide +kernel
theorem dX9_write_14 : decode cX9_write 14 = .ok (.aload_n 0, 1) := by decide +kernel
theorem dX9_write_15 : decode cX9_write 15 = .ok (.getfield 34, 3) := by decide +kernel
theorem dX9_write_18 : decode cX9_write 18 = .ok (.iload_n 1, 1) := by decide +kernel
theorem dX9_write_19 : decode cX9_write 19 = .ok (.iaload, 1) := by decide +kernel
theorem dX9_write_20 : decode cX9_write 20 = .ok (.ifCond .ne 10, 3) := by decide +kernel
theorem dX9_write_23 : decode cX9_write 23 = .ok (.aload_n 0, 1) := by decide +kernel
theorem dX9_write_24 : decode cX9_write 24 = .ok (.iconst 5, 1) := by decide +kernel
theorem dX9_write_25 : decode cX9_write 25 = .ok (.invokevirtual 82, 3) := by decide +kernel
theorem dX9_write_28 : decode cX9_write 28 = .ok (.i2l, 1) := by decide +kernel
theorem dX9_write_29 : decode cX9_write 29 = .ok (.lreturn, 1) := by decide +kernel
theorem dX9_write_30 : decode cX9_write 30 = .ok (.iload_n 2, 1) := by decide +kernel
theorem dX9_write_31 : decode cX9_write 31 = .ok (.iconst 0, 1) := by decide +kernel
theorem dX9_write_32 : decode cX9_write 32 = .ok (.aload_n 0, 1) := by decide +kernel
theorem dX9_write_33 : decode cX9_write 33 = .ok (.getfield 37, 3) := by decide +kernel
theorem dX9_write_36 : decode cX9_write 36 = .ok (.iload_n 1, 1) := by decide +kernel
theorem dX9_write_37 : decode cX9_write 37 = .ok (.iaload, 1) := by decide +kernel
theorem dX9_write_38 : decode cX9_write 38 = .ok (.iconst 1, 1) := by decide +kernel
theorem dX9_write_39 : decode cX9_write 39 = .ok (.isub, 1) := by decide +kernel
theorem dX9_write_40 : decode cX9_write 40 = .ok (.invokestatic 48, 3) := by decide +kernel
theorem dX9_write_43 : decode cX9_write 43 = .ok (.ifCond .ne 10, 3) := by decide +kernel
theorem dX9_write_46 : decode cX9_write 46 = .ok (.aload_n 0, 1) := by decide +kernel
theorem dX9_write_47 : decode cX9_write 47 = .ok (.iconst 0, 1) := by decide +kernel
theorem dX9_write_48 : decode cX9_write 48 = .ok (.invokevirtual 82, 3) := by decide +kernel
theorem dX9_write_51 : decode cX9_write 51 = .ok (.i2l, 1) := by decide +kernel
theorem dX9_write_52 : decode cX9_write 52 = .ok (.lreturn, 1) := by decide +kernel
theorem dX9_write_53 : decode cX9_write 53 = .ok (.aload_n 0, 1) := by decide +kernel
theorem dX9_write_54 : decode cX9_write 54 = .ok (.getfield 40, 3) := by decide +kernel
theorem dX9_write_57 : decode cX9_write 57 = .ok (.bipush 40, 2) := by decide +kernel
theorem dX9_write_59 : decode cX9_write 59 = .ok (.iload_n 1, 1) := by decide +kernel
theorem dX9_write_60 : decode cX9_write 60 = .ok (.imul, 1) := by decide +kernel
theorem dX9_write_61 : decode cX9_write 61 = .ok (.iload_n 2, 1) := by decide +kernel
theorem dX9_write_62 : decode cX9_write 62 = .ok (.iadd, 1) := by decide +kernel
theorem dX9_write_63 : decode cX9_write 63 = .ok (.laload, 1) := by decide +kernel
theorem dX9_write_64 : decode cX9_write 64 = .ok (.lstore 5, 2) := by decide +kernel
theorem dX9_write_66 : decode cX9_write 66 = .ok (.aload_n 0, 1) := by decide +kernel
theorem dX9_write_67 : decode cX9_write 67 = .ok (.iload_n 1, 1) := by decide +kernel
theorem dX9_write_68 : decode cX9_write 68 = .ok (.iload_n 2, 1) := by decide +kernel
theorem dX9_write_69 : decode cX9_write 69 = .ok (.lload_n 3, 1) := by decide +kernel
theorem dX9_write_70 : decode cX9_write 70 = .ok (.invokevirtual 290, 3) := by decide +kernel
theorem dX9_write_73 : decode cX9_write 73 = .ok (.lload 5, 2) := by decide +kernel
theorem dX9_write_75 : decode cX9_write 75 = .ok (.lreturn, 1) := by decide +kernel
set_option maxRecDepth 20000 in
theorem ggX9_copy_X9_isSheet : GoodIn wsX9_copy wsX9_isSheet := goodIn_r _ [8, 9, 10, 7, 11] (by decide +kernel) (by decide +kernel)
set_option maxRecDepth 20000 in
theorem gX9_copy_X9_isSheet : GoodIn wsX9_copy (va_wsS RX9 287 yX9_isSheet wsX9_isSheet) := goodIn_app (goodIn_of _ (by decide +kernel)) ggX9_copy_X9_isSheet
set_option maxRecDepth 20000 in
theorem ggX9_copy_X9_no : GoodIn wsX9_copy wsX9_no := goodIn_r _ [15, 16, 17, 18, 19, 20, 21, 22, 23, 24, 25, 26, 27, 28, 29, 30, 31, 32, 33, 34] (by decide +kernel) (by decide +kernel)
set_option maxRecDepth 20000 in
theorem gX9_copy_X9_no : GoodIn wsX9_copy (wsV RX9 82 RX9 yX9_no wsX9_no) := goodIn_app (goodIn_of _ (by decide +kernel)) ggX9_copy_X9_no
theorem dX9_copy_0 : decode cX9_copy 0 = .ok (.iload_n 1, 1) := by decide +kernel
theorem dX9_copy_1 : decode cX9_copy 1 = .ok (.invokestatic 287, 3) := by decide +kernel
theorem dX9_copy_4 : decode cX9_copy 4 = .ok (.ifCond .eq 10, 3) := by decide +kernel
theorem dX9_copy_7 : decode cX9_copy 7 = .ok (.iload_n 3, 1) := by decide +kernel
theorem dX9_copy_8 : decode cX9_copy 8 = .ok (.invokestatic 287, 3) := by decide +kernel
theorem dX9_copy_11 : decode cX9_copy 11 = .ok (.ifCond .ne 9, 3) := by decide +kernel
theorem dX9_copy_14 : decode cX9_copy 14 = .ok (.aload_n 0, 1) := by decide +kernel
theorem dX9_copy_15 : decode cX9_copy 15 = .ok (.iconst 0, 1) := by decide +kernel
theorem dX9_copy_16 : decode cX9_copy 16 = .ok (.invokevirtual 82, 3) := by decide +kernel
theorem dX9_copy_19 : decode cX9_copy 19 = .ok (.ireturn, 1) := by decide +kernel
theorem dX9_copy_20 : decode cX9_copy 20 = .ok (.aload_n 0, 1) := by decide +kernel
theorem dX9_copy_21 : decode cX9_copy 21 = .ok (.getfield 34, 3) := by decide +kernel
theorem dX9_copy_24 : decode cX9_copy 24 = .ok (.iload_n 1, 1) := by decide +kernel
theorem dX9_copy_25 : decode cX9_copy 25 = .ok (.iaload, 1) := by decide +kernel
theorem dX9_copy_26 : decode cX9_copy 26 = .ok (.ifCond .eq 12, 3) := by decide +kernel
theorem dX9_copy_29 : decode cX9_copy 29 = .ok (.aload_n 0, 1) := by decide +kernel
theorem dX9_copy_30 : decode cX9_copy 30 = .ok (.getfield 34, 3) := by decide +kernel
theorem dX9_copy_33 : decode cX9_copy 33 = .ok (.iload_n 3, 1) := by decide +kernel
theorem dX9_copy_34 : decode cX9_copy 34 = .ok (.iaload, 1) := by decide +kernel
theorem dX9_copy_35 : decode cX9_copy 35 = .ok (.ifCond .ne 9, 3) := by decide +kernel
theorem dX9_copy_38 : decode cX9_copy 38 = .ok (.aload_n 0, 1) := by decide +kernel
theorem dX9_copy_39 : decode cX9_copy 39 = .ok (.iconst 5, 1) := by decide +kernel
theorem dX9_copy_40 : decode cX9_copy 40 = .ok (.invokevirtual 82, 3) := by decide +kernel
theorem dX9_copy_43 : decode cX9_copy 43 = .ok (.ireturn, 1) := by decide +kernel
theorem dX9_copy_44 : decode cX9_copy 44 = .ok (.aload_n 0, 1) := by decide +kernel
theorem dX9_copy_45 : decode cX9_copy 45 = .ok (.getfield 34, 3) := by decide +kernel
theorem dX9_copy_48 : decode cX9_copy 48 = .ok (.iload_n 1, 1) := by decide +kernel
theorem dX9_copy_49 : decode cX9_copy 49 = .ok (.iaload, 1) := by decide +kernel
theorem dX9_copy_50 : decode cX9_copy 50 = .ok (.aload_n 0, 1) := by decide +kernel
theorem dX9_copy_51 : decode cX9_copy 51 = .ok (.getfield 34, 3) := by decide +kernel
theorem dX9_copy_54 : decode cX9_copy 54 = .ok (.iload_n 3, 1) := by decide +kernel
theorem dX9_copy_55 : decode cX9_copy 55 = .ok (.iaload, 1) := by decide +kernel
theorem dX9_copy_56 : decode cX9_copy 56 = .ok (.if_icmp .eq 9, 3) := by decide +kernel
theorem dX9_copy_59 : decode cX9_copy 59 = .ok (.aload_n 0, 1) := by decide +kernel
theorem dX9_copy_60 : decode cX9_copy 60 = .ok (.iconst 2, 1) := by decide +kernel
theorem dX9_copy_61 : decode cX9_copy 61 = .ok (.invokevirtual 82, 3) := by decide +kernel
theorem dX9_copy_64 : decode cX9_copy 64 = .ok (.ireturn, 1) := by decide +kernel
theorem dX9_copy_65 : decode cX9_copy 65 = .ok (.iload 5, 2) := by decide +kernel
theorem dX9_copy_67 : decode cX9_copy 67 = .ok (.ifCond .lt 39, 3) := by decide +kernel
theorem dX9_copy_70 : decode cX9_copy 70 = .ok (.iload_n 2, 1) := by decide +kernel
theorem dX9_copy_71 : decode cX9_copy 71 = .ok (.ifCond .lt 35, 3) := by decide +kernel
theorem dX9_copy_74 : decode cX9_copy 74 = .ok (.iload 4, 2) := by decide +kernel
theorem dX9_copy_76 : decode cX9_copy 76 = .ok (.ifCond .lt 30, 3) := by decide +kernel
theorem dX9_copy_79 : decode cX9_copy 79 = .ok (.iload_n 2, 1) := by decide +kernel
theorem dX9_copy_80 : decode cX9_copy 80 = .ok (.aload_n 0, 1) := by decide +kernel
theorem dX9_copy_81 : decode cX9_copy 81 = .ok (.getfield 37, 3) := by decide +kernel
theorem dX9_copy_84 : decode cX9_copy 84 = .ok (.iload_n 1, 1) := by decide +kernel
theorem dX9_copy_85 : decode cX9_copy 85 = .ok (.iaload, 1) := by decide +kernel
theorem dX9_copy_86 : decode cX9_copy 86 = .ok (.iload 5, 2) := by decide +kernel
theorem dX9_copy_88 : decode cX9_copy 88 = .ok (.isub, 1) := by decide +kernel
theorem dX9_copy_89 : decode cX9_copy 89 = .ok (.if_icmp .gt 17, 3) := by decide +kernel
theorem dX9_copy_92 : decode cX9_copy 92 = .ok (.iload 4, 2) := by decide +kernel
theorem dX9_copy_94 : decode cX9_copy 94 = .ok (.aload_n 0, 1) := by decide +kernel
theorem dX9_copy_95 : decode cX9_copy 95 = .ok (.getfield 37, 3) := by decide +kernel
theorem dX9_copy_98 : decode cX9_copy 98 = .ok (.iload_n 3, 1) := by decide +kernel
theorem dX9_copy_99 : decode cX9_copy 99 = .ok (.iaload, 1) := by decide +kernel
theorem dX9_copy_100 : decode cX9_copy 100 = .ok (.iload 5, 2) := by decide +kernel
theorem dX9_copy_102 : decode cX9_copy 102 = .ok (.isub, 1) := by decide +kernel
theorem dX9_copy_103 : decode cX9_copy 103 = .ok (.if_icmp .le 9, 3) := by decide +kernel
theorem dX9_copy_106 : decode cX9_copy 106 = .ok (.aload_n 0, 1) := by decide +kernel
theorem dX9_copy_107 : decode cX9_copy 107 = .ok (.iconst 0, 1) := by decide +kernel
theorem dX9_copy_108 : decode cX9_copy 108 = .ok (.invokevirtual 82, 3) := by decide +kernel
theorem dX9_copy_111 : decode cX9_copy 111 = .ok (.ireturn, 1) := by decide +kernel
theorem dX9_copy_112 : decode cX9_copy 112 = .ok (.iconst 0, 1) := by decide +kernel
theorem dX9_copy_113 : decode cX9_copy 113 = .ok (.istore 6, 2) := by decide +kernel
theorem dX9_copy_115 : decode cX9_copy 115 = .ok (.iload 6, 2) := by decide +kernel
theorem dX9_copy_117 : decode cX9_copy 117 = .ok (.iload 5, 2) := by decide +kernel
theorem dX9_copy_119 : decode cX9_copy 119 = .ok (.if_icmp .ge 30, 3) := by decide +kernel
theorem dX9_copy_122 : decode cX9_copy 122 = .ok (.aload_n 0, 1) := by decide +kernel
theorem dX9_copy_123 : decode cX9_copy 123 = .ok (.getfield 44, 3) := by decide +kernel
theorem dX9_copy_126 : decode cX9_copy 126 = .ok (.iload 6, 2) := by decide +kernel
theorem dX9_copy_128 : decode cX9_copy 128 = .ok (.aload_n 0, 1) := by decide +kernel
theorem dX9_copy_129 : decode cX9_copy 129 = .ok (.getfield 40, 3) := by decide +kernel
theorem dX9_copy_132 : decode cX9_copy 132 = .ok (.bipush 40, 2) := by decide +kernel
theorem dX9_copy_134 : decode cX9_copy 134 = .ok (.iload_n 1, 1) := by decide +kernel
theorem dX9_copy_135 : decode cX9_copy 135 = .ok (.imul, 1) := by decide +kernel
theorem dX9_copy_136 : decode cX9_copy 136 = .ok (.iload_n 2, 1) := by decide +kernel
theorem dX9_copy_137 : decode cX9_copy 137 = .ok (.iadd, 1) := by decide +kernel
theorem dX9_copy_138 : decode cX9_copy 138 = .ok (.iload 6, 2) := by decide +kernel
theorem dX9_copy_140 : decode cX9_copy 140 = .ok (.iadd, 1) := by decide +kernel
theorem dX9_copy_141 : decode cX9_copy 141 = .ok (.laload, 1) := by decide +kernel
theorem dX9_copy_142 : decode cX9_copy 142 = .ok (.lastore, 1) := by decide +kernel
theorem dX9_copy_143 : decode cX9_copy 143 = .ok (.iinc 6 1, 3) := by decide +kernel
theorem dX9_copy_146 : decode cX9_copy 146 = .ok (.goto (-31), 3) := by decide +kernel
theorem dX9_copy_149 : decode cX9_copy 149 = .ok (.iconst 0, 1) := by decide +kernel
theorem dX9_copy_150 : decode cX9_copy 150 = .ok (.istore 6, 2) := by decide +kernel
theorem dX9_copy_152 : decode cX9_copy 152 = .ok (.iload 6, 2) := by decide +kernel
theorem dX9_copy_154 : decode cX9_copy 154 = .ok (.iload 5, 2) := by decide +kernel
theorem dX9_copy_156 : decode cX9_copy 156 = .ok (.if_icmp .ge 31, 3) := by decide +kernel
theorem dX9_copy_159 : decode cX9_copy 159 = .ok (.aload_n 0, 1) := by decide +kernel
theorem dX9_copy_160 : decode cX9_copy 160 = .ok (.getfield 40, 3) := by decide +kernel
theorem dX9_copy_163 : decode cX9_copy 163 = .ok (.bipush 40, 2) := by decide +kernel
theorem dX9_copy_165 : decode cX9_copy 165 = .ok (.iload_n 3, 1) := by decide +kernel
theorem dX9_copy_166 : decode cX9_copy 166 = .ok (.imul, 1) := by decide +kernel
theorem dX9_copy_167 : decode cX9_copy 167 = .ok (.iload 4, 2) := by decide +kernel
theorem dX9_copy_169 : decode cX9_copy 169 = .ok (.iadd, 1) := by decide +kernel
theorem dX9_copy_170 : decode cX9_copy 170 = .ok (.iload 6, 2) := by decide +kernel
theorem dX9_copy_172 : decode cX9_copy 172 = .ok (.iadd, 1) := by decide +kernel
theorem dX9_copy_173 : decode cX9_copy 173 = .ok (.aload_n 0, 1) := by decide +kernel
theorem dX9_copy_174 : decode cX9_copy 174 = .ok (.getfield 44, 3) := by decide +kernel
theorem dX9_copy_177 : decode cX9_copy 177 = .ok (.iload 6, 2) := by decide +kernel
theorem dX9_copy_179 : decode cX9_copy 179 = .ok (.laload, 1) := by decide +kernel
theorem dX9_copy_180 : decode cX9_copy 180 = .ok (.lastore, 1) := by decide +kernel
theorem dX9_copy_181 : decode cX9_copy 181 = .ok (.iinc 6 1, 3) := by decide +kernel
theorem dX9_copy_184 : decode cX9_copy 184 = .ok (.goto (-32), 3) := by decide +kernel
theorem dX9_copy_187 : decode cX9_copy 187 = .ok (.iload 5, 2) := by decide +kernel
theorem dX9_copy_189 : decode cX9_copy 189 = .ok (.ireturn, 1) := by decide +kernel
set_option maxRecDepth 20000 in
theorem ggX9_lays_X9_isSheet : GoodIn wsX9_lays wsX9_isSheet := goodIn_r _ [9, 10, 11, 8, 12] (by decide +kernel) (by decide +kernel)
set_option maxRecDepth 20000 in
theorem gX9_lays_X9_isSheet : GoodIn wsX9_lays (va_wsS RX9 287 yX9_isSheet wsX9_isSheet) := goodIn_app (goodIn_of _ (by decide +kernel)) ggX9_lays_X9_isSheet
set_option maxRecDepth 20000 in
theorem ggX9_lays_X9_no : GoodIn wsX9_lays wsX9_no := goodIn_r _ [16, 17, 18, 19, 20, 21, 22, 23, 24, 25, 26, 27, 28, 29, 30, 31, 32, 33, 34, 35] (by decide +kernel) (by decide +kernel)
set_option maxRecDepth 20000 in
theorem gX9_lays_X9_no : GoodIn wsX9_lays (wsV RX9 82 RX9 yX9_no wsX9_no) := goodIn_app (goodIn_of _ (by decide +kernel)) ggX9_lays_X9_no
theorem dX9_lays_0 : decode cX9_lays 0 = .ok (.iload_n 1, 1) := by decide +kernel
theorem dX9_lays_1 : decode cX9_lays 1 = .ok (.invokestatic 287, 3) := by decide +kernel
theorem dX9_lays_4 : decode cX9_lays 4 = .ok (.ifCond .ne 9, 3) := by decide +kernel
theorem dX9_lays_7 : decode cX9_lays 7 = .ok (.aload_n 0, 1) := by decide +kernel
theorem dX9_lays_8 : decode cX9_lays 8 = .ok (.iconst 0, 1) := by decide +kernel
theorem dX9_lays_9 : decode cX9_lays 9 = .ok (.invokevirtual 82, 3) := by decide +kernel
theorem dX9_lays_12 : decode cX9_lays 12 = .ok (.ireturn, 1) := by decide +kernel
theorem dX9_lays_13 : decode cX9_lays 13 = .ok (.aload_n 0, 1) := by decide +kernel
theorem dX9_lays_14 : decode cX9_lays 14 = .ok (.getfield 34, 3) := by decide +kernel
theorem dX9_lays_17 : decode cX9_lays 17 = .ok (.iload_n 1, 1) := by decide +kernel
theorem dX9_lays_18 : decode cX9_lays 18 = .ok (.iaload, 1) := by decide +kernel
theorem dX9_lays_19 : decode cX9_lays 19 = .ok (.ifCond .ne 9, 3) := by decide +kernel
theorem dX9_lays_22 : decode cX9_lays 22 = .ok (.aload_n 0, 1) := by decide +kernel
theorem dX9_lays_23 : decode cX9_lays 23 = .ok (.iconst 5, 1) := by decide +kernel
theorem dX9_lays_24 : decode cX9_lays 24 = .ok (.invokevirtual 82, 3) := by decide +kernel
theorem dX9_lays_27 : decode cX9_lays 27 = .ok (.ireturn, 1) := by decide +kernel
theorem dX9_lays_28 : decode cX9_lays 28 = .ok (.iconst 0, 1) := by decide +kernel
theorem dX9_lays_29 : decode cX9_lays 29 = .ok (.istore_n 2, 1) := by decide +kernel
theorem dX9_lays_30 : decode cX9_lays 30 = .ok (.iconst 0, 1) := by decide +kernel
theorem dX9_lays_31 : decode cX9_lays 31 = .ok (.istore_n 3, 1) := by decide +kernel
theorem dX9_lays_32 : decode cX9_lays 32 = .ok (.iload_n 3, 1) := by decide +kernel
theorem dX9_lays_33 : decode cX9_lays 33 = .ok (.aload_n 0, 1) := by decide +kernel
theorem dX9_lays_34 : decode cX9_lays 34 = .ok (.getfield 37, 3) := by decide +kernel
theorem dX9_lays_37 : decode cX9_lays 37 = .ok (.iload_n 1, 1) := by decide +kernel
theorem dX9_lays_38 : decode cX9_lays 38 = .ok (.iaload, 1) := by decide +kernel
theorem dX9_lays_39 : decode cX9_lays 39 = .ok (.if_icmp .ge 58, 3) := by decide +kernel
theorem dX9_lays_42 : decode cX9_lays 42 = .ok (.iload_n 3, 1) := by decide +kernel
theorem dX9_lays_43 : decode cX9_lays 43 = .ok (.bipush 16, 2) := by decide +kernel
theorem dX9_lays_45 : decode cX9_lays 45 = .ok (.if_icmp .ge 52, 3) := by decide +kernel
theorem dX9_lays_48 : decode cX9_lays 48 = .ok (.aload_n 0, 1) := by decide +kernel
theorem dX9_lays_49 : decode cX9_lays 49 = .ok (.getfield 40, 3) := by decide +kernel
theorem dX9_lays_52 : decode cX9_lays 52 = .ok (.bipush 40, 2) := by decide +kernel
theorem dX9_lays_54 : decode cX9_lays 54 = .ok (.iload_n 1, 1) := by decide +kernel
theorem dX9_lays_55 : decode cX9_lays 55 = .ok (.imul, 1) := by decide +kernel
theorem dX9_lays_56 : decode cX9_lays 56 = .ok (.iload_n 3, 1) := by decide +kernel
theorem dX9_lays_57 : decode cX9_lays 57 = .ok (.iadd, 1) := by decide +kernel
theorem dX9_lays_58 : decode cX9_lays 58 = .ok (.laload, 1) := by decide +kernel
theorem dX9_lays_59 : decode cX9_lays 59 = .ok (.lstore 4, 2) := by decide +kernel
theorem dX9_lays_61 : decode cX9_lays 61 = .ok (.lload 4, 2) := by decide +kernel
theorem dX9_lays_63 : decode cX9_lays 63 = .ok (.lconst 0, 1) := by decide +kernel
theorem dX9_lays_64 : decode cX9_lays 64 = .ok (.lcmp, 1) := by decide +kernel
theorem dX9_lays_65 : decode cX9_lays 65 = .ok (.ifCond .lt 26, 3) := by decide +kernel
theorem dX9_lays_68 : decode cX9_lays 68 = .ok (.lload 4, 2) := by decide +kernel
theorem dX9_lays_70 : decode cX9_lays 70 = .ok (.ldc2_w 294, 3) := by decide +kernel
theorem dX9_lays_73 : decode cX9_lays 73 = .ok (.lcmp, 1) := by decide +kernel
theorem dX9_lays_74 : decode cX9_lays 74 = .ok (.ifCond .gt 17, 3) := by decide +kernel
theorem dX9_lays_77 : decode cX9_lays 77 = .ok (.aload_n 0, 1) := by decide +kernel
theorem dX9_lays_78 : decode cX9_lays 78 = .ok (.getfield 9, 3) := by decide +kernel
theorem dX9_lays_81 : decode cX9_lays 81 = .ok (.iconst 3, 1) := by decide +kernel
theorem dX9_lays_82 : decode cX9_lays 82 = .ok (.iload_n 3, 1) := by decide +kernel
theorem dX9_lays_83 : decode cX9_lays 83 = .ok (.iadd, 1) := by decide +kernel
theorem dX9_lays_84 : decode cX9_lays 84 = .ok (.lload 4, 2) := by decide +kernel
theorem dX9_lays_86 : decode cX9_lays 86 = .ok (.l2i, 1) := by decide +kernel
theorem dX9_lays_87 : decode cX9_lays 87 = .ok (.iastore, 1) := by decide +kernel
theorem dX9_lays_88 : decode cX9_lays 88 = .ok (.iinc 2 1, 3) := by decide +kernel
theorem dX9_lays_91 : decode cX9_lays 91 = .ok (.iinc 3 1, 3) := by decide +kernel
theorem dX9_lays_94 : decode cX9_lays 94 = .ok (.goto (-62), 3) := by decide +kernel
theorem dX9_lays_97 : decode cX9_lays 97 = .ok (.iload_n 2, 1) := by decide +kernel
theorem dX9_lays_98 : decode cX9_lays 98 = .ok (.ireturn, 1) := by decide +kernel
set_option maxRecDepth 20000 in
theorem ggX9_map_X9_isSheet : GoodIn wsX9_map wsX9_isSheet := goodIn_r _ [6, 7, 8, 5, 9] (by decide +kernel) (by decide +kernel)
set_option maxRecDepth 20000 in
theorem gX9_map_X9_isSheet : GoodIn wsX9_map (va_wsS RX9 287 yX9_isSheet wsX9_isSheet) := goodIn_app (goodIn_of _ (by decide +kernel)) ggX9_map_X9_isSheet
set_option maxRecDepth 20000 in
theorem ggX9_map_X9_no : GoodIn wsX9_map wsX9_no := goodIn_r _ [13, 14, 15, 48, 49, 50, 51, 52, 53, 54, 55, 56, 57, 58, 59, 60, 61, 62, 63, 64] (by decide +kernel) (by decide +kernel)
set_option maxRecDepth 20000 in
theorem gX9_map_X9_no : GoodIn wsX9_map (wsV RX9 82 RX9 yX9_no wsX9_no) := goodIn_app (goodIn_of _ (by decide +kernel)) ggX9_map_X9_no
set_option maxRecDepth 20000 in
theorem ggX9_map_X9_lightOf : GoodIn wsX9_map wsX9_lightOf := goodIn_r _ [19, 20, 21, 22, 23, 5, 24, 25, 26, 27, 28, 29, 30, 31, 32, 33, 34, 35, 36, 37, 38, 39, 40, 41, 42, 48, 49, 50, 51, 52, 53, 54, 55, 56, 57, 58, 59, 60, 61, 62, 63, 64] (by decide +kernel) (by decide +kernel)
set_option maxRecDepth 20000 in
theorem gX9_map_X9_lightOf : GoodIn wsX9_map (wsV RX9 73 RX9 yX9_lightOf wsX9_lightOf) := goodIn_app (goodIn_of _ (by decide +kernel)) ggX9_map_X9_lightOf
set_option maxRecDepth 20000 in
theorem ggX9_map_X9_writes : GoodIn wsX9_map wsX9_writes := goodIn_r _ [46, 47, 1, 48, 49, 50, 51, 52, 53, 54, 55, 56, 57, 58, 59, 60, 61, 62, 63, 64] (by decide +kernel) (by decide +kernel)
set_option maxRecDepth 20000 in
theorem gX9_map_X9_writes : GoodIn wsX9_map (wsV RX9 290 RX9 yX9_writes wsX9_writes) := goodIn_app (goodIn_of _ (by decide +kernel)) ggX9_map_X9_writes
theorem dX9_map_0 : decode cX9_map 0 = .ok (.iload_n 1, 1) := by decide +kernel
theorem dX9_map_1 : decode cX9_map 1 = .ok (.invokestatic 287, 3) := by decide +kernel
theorem dX9_map_4 : decode cX9_map 4 = .ok (.ifCond .ne 9, 3) := by decide +kernel
theorem dX9_map_7 : decode cX9_map 7 = .ok (.aload_n 0, 1) := by decide +kernel
theorem dX9_map_8 : decode cX9_map 8 = .ok (.iconst 0, 1) := by decide +kernel
theorem dX9_map_9 : decode cX9_map 9 = .ok (.invokevirtual 82, 3) := by decide +kernel
theorem dX9_map_12 : decode cX9_map 12 = .ok (.ireturn, 1) := by decide +kernel
theorem dX9_map_13 : decode cX9_map 13 = .ok (.aload_n 0, 1) := by decide +kernel
theorem dX9_map_14 : decode cX9_map 14 = .ok (.getfield 34, 3) := by decide +kernel
theorem dX9_map_17 : decode cX9_map 17 = .ok (.iload_n 1, 1) := by decide +kernel
theorem dX9_map_18 : decode cX9_map 18 = .ok (.iaload, 1) := by decide +kernel
theorem dX9_map_19 : decode cX9_map 19 = .ok (.ifCond .ne 9, 3) := by decide +kernel
theorem dX9_map_22 : decode cX9_map 22 = .ok (.aload_n 0, 1) := by decide +kernel
theorem dX9_map_23 : decode cX9_map 23 = .ok (.iconst 5, 1) := by decide +kernel
theorem dX9_map_24 : decode cX9_map 24 = .ok (.invokevirtual 82, 3) := by decide +kernel
theorem dX9_map_27 : decode cX9_map 27 = .ok (.ireturn, 1) := by decide +kernel
theorem dX9_map_28 : decode cX9_map 28 = .ok (.aload_n 0, 1) := by decide +kernel
theorem dX9_map_29 : decode cX9_map 29 = .ok (.getfield 37, 3) := by decide +kernel
theorem dX9_map_32 : decode cX9_map 32 = .ok (.iload_n 1, 1) := by decide +kernel
theorem dX9_map_33 : decode cX9_map 33 = .ok (.iaload, 1) := by decide +kernel
theorem dX9_map_34 : decode cX9_map 34 = .ok (.bipush 16, 2) := by decide +kernel
theorem dX9_map_36 : decode cX9_map 36 = .ok (.if_icmp .ge 12, 3) := by decide +kernel
theorem dX9_map_39 : decode cX9_map 39 = .ok (.aload_n 0, 1) := by decide +kernel
theorem dX9_map_40 : decode cX9_map 40 = .ok (.getfield 37, 3) := by decide +kernel
theorem dX9_map_43 : decode cX9_map 43 = .ok (.iload_n 1, 1) := by decide +kernel
theorem dX9_map_44 : decode cX9_map 44 = .ok (.iaload, 1) := by decide +kernel
theorem dX9_map_45 : decode cX9_map 45 = .ok (.goto 5, 3) := by decide +kernel
theorem dX9_map_48 : decode cX9_map 48 = .ok (.bipush 16, 2) := by decide +kernel
theorem dX9_map_50 : decode cX9_map 50 = .ok (.istore_n 2, 1) := by decide +kernel
theorem dX9_map_51 : decode cX9_map 51 = .ok (.iconst 0, 1) := by decide +kernel
theorem dX9_map_52 : decode cX9_map 52 = .ok (.istore_n 3, 1) := by decide +kernel
theorem dX9_map_53 : decode cX9_map 53 = .ok (.iload_n 3, 1) := by decide +kernel
theorem dX9_map_54 : decode cX9_map 54 = .ok (.iload_n 2, 1) := by decide +kernel
theorem dX9_map_55 : decode cX9_map 55 = .ok (.if_icmp .ge 21, 3) := by decide +kernel
theorem dX9_map_58 : decode cX9_map 58 = .ok (.aload_n 0, 1) := by decide +kernel
theorem dX9_map_59 : decode cX9_map 59 = .ok (.iload_n 1, 1) := by decide +kernel
theorem dX9_map_60 : decode cX9_map 60 = .ok (.iload_n 3, 1) := by decide +kernel
theorem dX9_map_61 : decode cX9_map 61 = .ok (.aload_n 0, 1) := by decide +kernel
theorem dX9_map_62 : decode cX9_map 62 = .ok (.iload_n 3, 1) := by decide +kernel
theorem dX9_map_63 : decode cX9_map 63 = .ok (.invokevirtual 73, 3) := by decide +kernel
theorem dX9_map_66 : decode cX9_map 66 = .ok (.i2l, 1) := by decide +kernel
theorem dX9_map_67 : decode cX9_map 67 = .ok (.invokevirtual 290, 3) := by decide +kernel
theorem dX9_map_70 : decode cX9_map 70 = .ok (.iinc 3 1, 3) := by decide +kernel
theorem dX9_map_73 : decode cX9_map 73 = .ok (.goto (-20), 3) := by decide +kernel
theorem dX9_map_76 : decode cX9_map 76 = .ok (.iload_n 2, 1) := by decide +kernel
theorem dX9_map_77 : decode cX9_map 77 = .ok (.ireturn, 1) := by decide +kernel
set_option maxRecDepth 20000 in
theorem ggX9_isJust_X9_has : GoodIn wsX9_isJust wsX9_has := goodIn_r _ [7] (by decide +kernel) (by decide +kernel)
set_option maxRecDepth 20000 in
theorem gX9_isJust_X9_has : GoodIn wsX9_isJust (va_wsS RX9 142 yX9_has wsX9_has) := goodIn_app (goodIn_of _ (by decide +kernel)) ggX9_isJust_X9_has
set_option maxRecDepth 20000 in
theorem ggX9_isJust_X9_givesTo : GoodIn wsX9_isJust wsX9_givesTo := goodIn_r _ [11, 12, 13, 14, 6, 15, 16, 17, 18, 19, 2, 20, 21, 22, 23, 24, 25, 26, 27, 28, 29, 30, 31, 32, 33, 34, 35, 36, 37, 38, 39, 40, 41, 42, 43, 44, 45, 46] (by decide +kernel) (by decide +kernel)
set_option maxRecDepth 20000 in
theorem gX9_isJust_X9_givesTo : GoodIn wsX9_isJust (wsV RX9 70 RX9 yX9_givesTo wsX9_givesTo) := goodIn_app (goodIn_of _ (by decide +kernel)) ggX9_isJust_X9_givesTo
theorem dX9_isJust_0 : decode cX9_isJust 0 = .ok (.iconst 1, 1) := by decide +kernel
theorem dX9_isJust_1 : decode cX9_isJust 1 = .ok (.istore_n 3, 1) := by decide +kernel
theorem dX9_isJust_2 : decode cX9_isJust 2 = .ok (.iconst 0, 1) := by decide +kernel
theorem dX9_isJust_3 : decode cX9_isJust 3 = .ok (.istore 4, 2) := by decide +kernel
theorem dX9_isJust_5 : decode cX9_isJust 5 = .ok (.iload 4, 2) := by decide +kernel
theorem dX9_isJust_7 : decode cX9_isJust 7 = .ok (.aload_n 0, 1) := by decide +kernel
theorem dX9_isJust_8 : decode cX9_isJust 8 = .ok (.getfield 37, 3) := by decide +kernel
theorem dX9_isJust_11 : decode cX9_isJust 11 = .ok (.iload_n 1, 1) := by decide +kernel
theorem dX9_isJust_12 : decode cX9_isJust 12 = .ok (.iaload, 1) := by decide +kernel
theorem dX9_isJust_13 : decode cX9_isJust 13 = .ok (.if_icmp .ge 103, 3) := by decide +kernel
theorem dX9_isJust_16 : decode cX9_isJust 16 = .ok (.iload 4, 2) := by decide +kernel
theorem dX9_isJust_18 : decode cX9_isJust 18 = .ok (.bipush 16, 2) := by decide +kernel
theorem dX9_isJust_20 : decode cX9_isJust 20 = .ok (.if_icmp .ge 96, 3) := by decide +kernel
theorem dX9_isJust_23 : decode cX9_isJust 23 = .ok (.iload_n 3, 1) := by decide +kernel
theorem dX9_isJust_24 : decode cX9_isJust 24 = .ok (.ifCond .eq 92, 3) := by decide +kernel
theorem dX9_isJust_27 : decode cX9_isJust 27 = .ok (.aload_n 0, 1) := by decide +kernel
theorem dX9_isJust_28 : decode cX9_isJust 28 = .ok (.getfield 9, 3) := by decide +kernel
theorem dX9_isJust_31 : decode cX9_isJust 31 = .ok (.iconst 3, 1) := by decide +kernel
theorem dX9_isJust_32 : decode cX9_isJust 32 = .ok (.iload 4, 2) := by decide +kernel
theorem dX9_isJust_34 : decode cX9_isJust 34 = .ok (.iadd, 1) := by decide +kernel
theorem dX9_isJust_35 : decode cX9_isJust 35 = .ok (.iaload, 1) := by decide +kernel
theorem dX9_isJust_36 : decode cX9_isJust 36 = .ok (.i2l, 1) := by decide +kernel
theorem dX9_isJust_37 : decode cX9_isJust 37 = .ok (.lstore 5, 2) := by decide +kernel
theorem dX9_isJust_39 : decode cX9_isJust 39 = .ok (.iconst 0, 1) := by decide +kernel
theorem dX9_isJust_40 : decode cX9_isJust 40 = .ok (.istore 7, 2) := by decide +kernel
theorem dX9_isJust_42 : decode cX9_isJust 42 = .ok (.iload 7, 2) := by decide +kernel
theorem dX9_isJust_44 : decode cX9_isJust 44 = .ok (.aload_n 0, 1) := by decide +kernel
theorem dX9_isJust_45 : decode cX9_isJust 45 = .ok (.getfield 9, 3) := by decide +kernel
theorem dX9_isJust_48 : decode cX9_isJust 48 = .ok (.iconst 1, 1) := by decide +kernel
theorem dX9_isJust_49 : decode cX9_isJust 49 = .ok (.iaload, 1) := by decide +kernel
theorem dX9_isJust_50 : decode cX9_isJust 50 = .ok (.if_icmp .ge 36, 3) := by decide +kernel
theorem dX9_isJust_53 : decode cX9_isJust 53 = .ok (.lload 5, 2) := by decide +kernel
theorem dX9_isJust_55 : decode cX9_isJust 55 = .ok (.iload_n 2, 1) := by decide +kernel
theorem dX9_isJust_56 : decode cX9_isJust 56 = .ok (.iload 7, 2) := by decide +kernel
theorem dX9_isJust_58 : decode cX9_isJust 58 = .ok (.invokestatic 142, 3) := by decide +kernel
theorem dX9_isJust_61 : decode cX9_isJust 61 = .ok (.ifCond .eq 15, 3) := by decide +kernel
theorem dX9_isJust_64 : decode cX9_isJust 64 = .ok (.aload_n 0, 1) := by decide +kernel
theorem dX9_isJust_65 : decode cX9_isJust 65 = .ok (.iload 7, 2) := by decide +kernel
theorem dX9_isJust_67 : decode cX9_isJust 67 = .ok (.iload 4, 2) := by decide +kernel
theorem dX9_isJust_69 : decode cX9_isJust 69 = .ok (.invokevirtual 70, 3) := by decide +kernel
theorem dX9_isJust_72 : decode cX9_isJust 72 = .ok (.i2l, 1) := by decide +kernel
theorem dX9_isJust_73 : decode cX9_isJust 73 = .ok (.goto 4, 3) := by decide +kernel
theorem dX9_isJust_76 : decode cX9_isJust 76 = .ok (.lconst 0, 1) := by decide +kernel
theorem dX9_isJust_77 : decode cX9_isJust 77 = .ok (.ladd, 1) := by decide +kernel
theorem dX9_isJust_78 : decode cX9_isJust 78 = .ok (.lstore 5, 2) := by decide +kernel
theorem dX9_isJust_80 : decode cX9_isJust 80 = .ok (.iinc 7 1, 3) := by decide +kernel
theorem dX9_isJust_83 : decode cX9_isJust 83 = .ok (.goto (-41), 3) := by decide +kernel
theorem dX9_isJust_86 : decode cX9_isJust 86 = .ok (.lload 5, 2) := by decide +kernel
theorem dX9_isJust_88 : decode cX9_isJust 88 = .ok (.aload_n 0, 1) := by decide +kernel
theorem dX9_isJust_89 : decode cX9_isJust 89 = .ok (.getfield 40, 3) := by decide +kernel
theorem dX9_isJust_92 : decode cX9_isJust 92 = .ok (.bipush 40, 2) := by decide +kernel
theorem dX9_isJust_94 : decode cX9_isJust 94 = .ok (.iload_n 1, 1) := by decide +kernel
theorem dX9_isJust_95 : decode cX9_isJust 95 = .ok (.imul, 1) := by decide +kernel
theorem dX9_isJust_96 : decode cX9_isJust 96 = .ok (.iload 4, 2) := by decide +kernel
theorem dX9_isJust_98 : decode cX9_isJust 98 = .ok (.iadd, 1) := by decide +kernel
theorem dX9_isJust_99 : decode cX9_isJust 99 = .ok (.laload, 1) := by decide +kernel
theorem dX9_isJust_100 : decode cX9_isJust 100 = .ok (.lcmp, 1) := by decide +kernel
theorem dX9_isJust_101 : decode cX9_isJust 101 = .ok (.ifCond .ne 7, 3) := by decide +kernel
theorem dX9_isJust_104 : decode cX9_isJust 104 = .ok (.iconst 1, 1) := by decide +kernel
theorem dX9_isJust_105 : decode cX9_isJust 105 = .ok (.goto 4, 3) := by decide +kernel
theorem dX9_isJust_108 : decode cX9_isJust 108 = .ok (.iconst 0, 1) := by decide +kernel
theorem dX9_isJust_109 : decode cX9_isJust 109 = .ok (.istore_n 3, 1) := by decide +kernel
theorem dX9_isJust_110 : decode cX9_isJust 110 = .ok (.iinc 4 1, 3) := by decide +kernel
theorem dX9_isJust_113 : decode cX9_isJust 113 = .ok (.goto (-108), 3) := by decide +kernel
theorem dX9_isJust_116 : decode cX9_isJust 116 = .ok (.iload_n 3, 1) := by decide +kernel
theorem dX9_isJust_117 : decode cX9_isJust 117 = .ok (.ireturn, 1) := by decide +kernel
set_option maxRecDepth 20000 in
theorem ggX9_read_X9_isSheet : GoodIn wsX9_read wsX9_isSheet := goodIn_r _ [6, 7, 8, 5, 9] (by decide +kernel) (by decide +kernel)
set_option maxRecDepth 20000 in
theorem gX9_read_X9_isSheet : GoodIn wsX9_read (va_wsS RX9 287 yX9_isSheet wsX9_isSheet) := goodIn_app (goodIn_of _ (by decide +kernel)) ggX9_read_X9_isSheet
set_option maxRecDepth 20000 in
theorem ggX9_read_X9_no : GoodIn wsX9_read wsX9_no := goodIn_r _ [13, 14, 15, 47, 48, 49, 50, 51, 52, 53, 54, 55, 56, 57, 58, 59, 60, 61, 62, 63] (by decide +kernel) (by decide +kernel)
set_option maxRecDepth 20000 in
theorem gX9_read_X9_no : GoodIn wsX9_read (wsV RX9 82 RX9 yX9_no wsX9_no) := goodIn_app (goodIn_of _ (by decide +kernel)) ggX9_read_X9_no
set_option maxRecDepth 20000 in
theorem ggX9_read_X9_isJust : GoodIn wsX9_read wsX9_isJust := goodIn_r _ [19, 20, 2, 21, 22, 23, 5, 24, 25, 26, 27, 28, 29, 30, 31, 32, 33, 34, 35, 36, 37, 38, 39, 40, 41, 42, 43, 44, 45, 46, 47, 48, 49, 50, 51, 52, 53, 54, 55, 56, 57, 58, 59, 60, 61, 62, 63] (by decide +kernel) (by decide +kernel)
set_option maxRecDepth 20000 in
theorem gX9_read_X9_isJust : GoodIn wsX9_read (wsV RX9 296 RX9 yX9_isJust wsX9_isJust) := goodIn_app (goodIn_of _ (by decide +kernel)) ggX9_read_X9_isJust
theorem dX9_read_0 : decode cX9_read 0 = .ok (.iload_n 1, 1) := by decide +kernel
theorem dX9_read_1 : decode cX9_read 1 = .ok (.invokestatic 287, 3) := by decide +kernel
theorem dX9_read_4 : decode cX9_read 4 = .ok (.ifCond .ne 9, 3) := by decide +kernel
theorem dX9_read_7 : decode cX9_read 7 = .ok (.aload_n 0, 1) := by decide +kernel
theorem dX9_read_8 : decode cX9_read 8 = .ok (.iconst 0, 1) := by decide +kernel
theorem dX9_read_9 : decode cX9_read 9 = .ok (.invokevirtual 82, 3) := by decide +kernel
theorem dX9_read_12 : decode cX9_read 12 = .ok (.ireturn, 1) := by decide +kernel
theorem dX9_read_13 : decode cX9_read 13 = .ok (.aload_n 0, 1) := by decide +kernel
theorem dX9_read_14 : decode cX9_read 14 = .ok (.getfield 34, 3) := by decide +kernel
theorem dX9_read_17 : decode cX9_read 17 = .ok (.iload_n 1, 1) := by decide +kernel
theorem dX9_read_18 : decode cX9_read 18 = .ok (.iaload, 1) := by decide +kernel
theorem dX9_read_19 : decode cX9_read 19 = .ok (.ifCond .ne 9, 3) := by decide +kernel
theorem dX9_read_22 : decode cX9_read 22 = .ok (.aload_n 0, 1) := by decide +kernel
theorem dX9_read_23 : decode cX9_read 23 = .ok (.iconst 5, 1) := by decide +kernel
theorem dX9_read_24 : decode cX9_read 24 = .ok (.invokevirtual 82, 3) := by decide +kernel
theorem dX9_read_27 : decode cX9_read 27 = .ok (.ireturn, 1) := by decide +kernel
theorem dX9_read_28 : decode cX9_read 28 = .ok (.iconst 0, 1) := by decide +kernel
theorem dX9_read_29 : decode cX9_read 29 = .ok (.istore_n 2, 1) := by decide +kernel
theorem dX9_read_30 : decode cX9_read 30 = .ok (.iconst 0, 1) := by decide +kernel
theorem dX9_read_31 : decode cX9_read 31 = .ok (.istore_n 3, 1) := by decide +kernel
theorem dX9_read_32 : decode cX9_read 32 = .ok (.iload_n 3, 1) := by decide +kernel
theorem dX9_read_33 : decode cX9_read 33 = .ok (.iconst 1, 1) := by decide +kernel
theorem dX9_read_34 : decode cX9_read 34 = .ok (.aload_n 0, 1) := by decide +kernel
theorem dX9_read_35 : decode cX9_read 35 = .ok (.getfield 9, 3) := by decide +kernel
theorem dX9_read_38 : decode cX9_read 38 = .ok (.iconst 1, 1) := by decide +kernel
theorem dX9_read_39 : decode cX9_read 39 = .ok (.iaload, 1) := by decide +kernel
theorem dX9_read_40 : decode cX9_read 40 = .ok (.ishl, 1) := by decide +kernel
theorem dX9_read_41 : decode cX9_read 41 = .ok (.if_icmp .ge 26, 3) := by decide +kernel
theorem dX9_read_44 : decode cX9_read 44 = .ok (.iload_n 2, 1) := by decide +kernel
theorem dX9_read_45 : decode cX9_read 45 = .ok (.aload_n 0, 1) := by decide +kernel
theorem dX9_read_46 : decode cX9_read 46 = .ok (.iload_n 1, 1) := by decide +kernel
theorem dX9_read_47 : decode cX9_read 47 = .ok (.iload_n 3, 1) := by decide +kernel
theorem dX9_read_48 : decode cX9_read 48 = .ok (.invokevirtual 296, 3) := by decide +kernel
theorem dX9_read_51 : decode cX9_read 51 = .ok (.ifCond .eq 7, 3) := by decide +kernel
theorem dX9_read_54 : decode cX9_read 54 = .ok (.iconst 1, 1) := by decide +kernel
theorem dX9_read_55 : decode cX9_read 55 = .ok (.goto 4, 3) := by decide +kernel
theorem dX9_read_58 : decode cX9_read 58 = .ok (.iconst 0, 1) := by decide +kernel
theorem dX9_read_59 : decode cX9_read 59 = .ok (.iadd, 1) := by decide +kernel
theorem dX9_read_60 : decode cX9_read 60 = .ok (.istore_n 2, 1) := by decide +kernel
theorem dX9_read_61 : decode cX9_read 61 = .ok (.iinc 3 1, 3) := by decide +kernel
theorem dX9_read_64 : decode cX9_read 64 = .ok (.goto (-32), 3) := by decide +kernel
theorem dX9_read_67 : decode cX9_read 67 = .ok (.iload_n 2, 1) := by decide +kernel
theorem dX9_read_68 : decode cX9_read 68 = .ok (.ireturn, 1) := by decide +kernel
set_option maxRecDepth 20000 in
theorem ggX9_image_X9_lay : GoodIn wsX9_image wsX9_lay := goodIn_r _ [7] (by decide +kernel) (by decide +kernel)
set_option maxRecDepth 20000 in
theorem gX9_image_X9_lay : GoodIn wsX9_image (va_wsS RX9 119 yX9_lay wsX9_lay) := goodIn_app (goodIn_of _ (by decide +kernel)) ggX9_image_X9_lay
theorem dX9_image_0 : decode cX9_image 0 = .ok (.aload_n 0, 1) := by decide +kernel
theorem dX9_image_1 : decode cX9_image 1 = .ok (.getfield 9, 3) := by decide +kernel
theorem dX9_image_4 : decode cX9_image 4 = .ok (.aload_n 0, 1) := by decide +kernel
theorem dX9_image_5 : decode cX9_image 5 = .ok (.getfield 13, 3) := by decide +kernel
theorem dX9_image_8 : decode cX9_image 8 = .ok (.invokestatic 119, 3) := by decide +kernel
theorem dX9_image_11 : decode cX9_image 11 = .ok (.aload_n 0, 1) := by decide +kernel
theorem dX9_image_12 : decode cX9_image 12 = .ok (.iconst 1, 1) := by decide +kernel
theorem dX9_image_13 : decode cX9_image 13 = .ok (.putfield 299, 3) := by decide +kernel
theorem dX9_image_16 : decode cX9_image 16 = .ok (.iconst 1, 1) := by decide +kernel
theorem dX9_image_17 : decode cX9_image 17 = .ok (.ireturn, 1) := by decide +kernel
set_option maxRecDepth 20000 in
theorem ggX9_undo_X9_no : GoodIn wsX9_undo wsX9_no := goodIn_r _ [8, 9, 10, 14, 15, 16, 17, 18, 19, 20, 21, 22, 23, 24, 25, 26, 27, 28, 29, 30] (by decide +kernel) (by decide +kernel)
set_option maxRecDepth 20000 in
theorem gX9_undo_X9_no : GoodIn wsX9_undo (wsV RX9 82 RX9 yX9_no wsX9_no) := goodIn_app (goodIn_of _ (by decide +kernel)) ggX9_undo_X9_no
set_option maxRecDepth 20000 in
theorem ggX9_undo_X9_lay : GoodIn wsX9_undo wsX9_lay := goodIn_r _ [13] (by decide +kernel) (by decide +kernel)
set_option maxRecDepth 20000 in
theorem gX9_undo_X9_lay : GoodIn wsX9_undo (va_wsS RX9 119 yX9_lay wsX9_lay) := goodIn_app (goodIn_of _ (by decide +kernel)) ggX9_undo_X9_lay
theorem dX9_undo_0 : decode cX9_undo 0 = .ok (.aload_n 0, 1) := by decide +kernel
theorem dX9_undo_1 : decode cX9_undo 1 = .ok (.getfield 299, 3) := by decide +kernel
theorem dX9_undo_4 : decode cX9_undo 4 = .ok (.ifCond .ne 9, 3) := by decide +kernel
theorem dX9_undo_7 : decode cX9_undo 7 = .ok (.aload_n 0, 1) := by decide +kernel
theorem dX9_undo_8 : decode cX9_undo 8 = .ok (.iconst 3, 1) := by decide +kernel
theorem dX9_undo_9 : decode cX9_undo 9 = .ok (.invokevirtual 82, 3) := by decide +kernel
theorem dX9_undo_12 : decode cX9_undo 12 = .ok (.ireturn, 1) := by decide +kernel
theorem dX9_undo_13 : decode cX9_undo 13 = .ok (.aload_n 0, 1) := by decide +kernel
theorem dX9_undo_14 : decode cX9_undo 14 = .ok (.getfield 13, 3) := by decide +kernel
theorem dX9_undo_17 : decode cX9_undo 17 = .ok (.aload_n 0, 1) := by decide +kernel
theorem dX9_undo_18 : decode cX9_undo 18 = .ok (.getfield 9, 3) := by decide +kernel
theorem dX9_undo_21 : decode cX9_undo 21 = .ok (.invokestatic 119, 3) := by decide +kernel
theorem dX9_undo_24 : decode cX9_undo 24 = .ok (.aload_n 0, 1) := by decide +kernel
theorem dX9_undo_25 : decode cX9_undo 25 = .ok (.getfield 9, 3) := by decide +kernel
theorem dX9_undo_28 : decode cX9_undo 28 = .ok (.iconst 1, 1) := by decide +kernel
theorem dX9_undo_29 : decode cX9_undo 29 = .ok (.iaload, 1) := by decide +kernel
theorem dX9_undo_30 : decode cX9_undo 30 = .ok (.ireturn, 1) := by decide +kernel
theorem dX9_tear_0 : decode cX9_tear 0 = .ok (.aload_n 0, 1) := by decide +kernel
theorem dX9_tear_1 : decode cX9_tear 1 = .ok (.getfield 299, 3) := by decide +kernel
theorem dX9_tear_4 : decode cX9_tear 4 = .ok (.ifCond .eq 7, 3) := by decide +kernel
theorem dX9_tear_7 : decode cX9_tear 7 = .ok (.iconst 1, 1) := by decide +kernel
theorem dX9_tear_8 : decode cX9_tear 8 = .ok (.goto 4, 3) := by decide +kernel
theorem dX9_tear_11 : decode cX9_tear 11 = .ok (.iconst 0, 1) := by decide +kernel
theorem dX9_tear_12 : decode cX9_tear 12 = .ok (.istore_n 1, 1) := by decide +kernel
theorem dX9_tear_13 : decode cX9_tear 13 = .ok (.aload_n 0, 1) := by decide +kernel
theorem dX9_tear_14 : decode cX9_tear 14 = .ok (.iconst 0, 1) := by decide +kernel
theorem dX9_tear_15 : decode cX9_tear 15 = .ok (.putfield 299, 3) := by decide +kernel
theorem dX9_tear_18 : decode cX9_tear 18 = .ok (.iload_n 1, 1) := by decide +kernel
theorem dX9_tear_19 : decode cX9_tear 19 = .ok (.ireturn, 1) := by decide +kernel
set_option maxRecDepth 20000 in
theorem ggX9_mealsOfAll_X9_is : GoodIn wsX9_mealsOfAll wsX9_is := goodIn_r _ [6, 1, 7, 8, 9, 10, 11, 12, 13, 14, 15, 16, 17, 18, 19, 20, 21, 22, 23] (by decide +kernel) (by decide +kernel)
set_option maxRecDepth 20000 in
theorem gX9_mealsOfAll_X9_is : GoodIn wsX9_mealsOfAll (wsV RX9 52 RX9 yX9_is wsX9_is) := goodIn_app (goodIn_of _ (by decide +kernel)) ggX9_mealsOfAll_X9_is
theorem dX9_mealsOfAll_0 : decode cX9_mealsOfAll 0 = .ok (.iconst 0, 1) := by decide +kernel
theorem dX9_mealsOfAll_1 : decode cX9_mealsOfAll 1 = .ok (.istore_n 1, 1) := by decide +kernel
theorem dX9_mealsOfAll_2 : decode cX9_mealsOfAll 2 = .ok (.iconst 0, 1) := by decide +kernel
theorem dX9_mealsOfAll_3 : decode cX9_mealsOfAll 3 = .ok (.istore_n 2, 1) := by decide +kernel
theorem dX9_mealsOfAll_4 : decode cX9_mealsOfAll 4 = .ok (.iload_n 2, 1) := by decide +kernel
theorem dX9_mealsOfAll_5 : decode cX9_mealsOfAll 5 = .ok (.aload_n 0, 1) := by decide +kernel
theorem dX9_mealsOfAll_6 : decode cX9_mealsOfAll 6 = .ok (.getfield 9, 3) := by decide +kernel
theorem dX9_mealsOfAll_9 : decode cX9_mealsOfAll 9 = .ok (.iconst 1, 1) := by decide +kernel
theorem dX9_mealsOfAll_10 : decode cX9_mealsOfAll 10 = .ok (.iaload, 1) := by decide +kernel
theorem dX9_mealsOfAll_11 : decode cX9_mealsOfAll 11 = .ok (.if_icmp .ge 18, 3) := by decide +kernel
theorem dX9_mealsOfAll_14 : decode cX9_mealsOfAll 14 = .ok (.iload_n 1, 1) := by decide +kernel
theorem dX9_mealsOfAll_15 : decode cX9_mealsOfAll 15 = .ok (.aload_n 0, 1) := by decide +kernel
theorem dX9_mealsOfAll_16 : decode cX9_mealsOfAll 16 = .ok (.iload_n 2, 1) := by decide +kernel
theorem dX9_mealsOfAll_17 : decode cX9_mealsOfAll 17 = .ok (.iconst 3, 1) := by decide +kernel
theorem dX9_mealsOfAll_18 : decode cX9_mealsOfAll 18 = .ok (.invokevirtual 52, 3) := by decide +kernel
theorem dX9_mealsOfAll_21 : decode cX9_mealsOfAll 21 = .ok (.iadd, 1) := by decide +kernel
theorem dX9_mealsOfAll_22 : decode cX9_mealsOfAll 22 = .ok (.istore_n 1, 1) := by decide +kernel
theorem dX9_mealsOfAll_23 : decode cX9_mealsOfAll 23 = .ok (.iinc 2 1, 3) := by decide +kernel
theorem dX9_mealsOfAll_26 : decode cX9_mealsOfAll 26 = .ok (.goto (-22), 3) := by decide +kernel
theorem dX9_mealsOfAll_29 : decode cX9_mealsOfAll 29 = .ok (.iload_n 1, 1) := by decide +kernel
theorem dX9_mealsOfAll_30 : decode cX9_mealsOfAll 30 = .ok (.ireturn, 1) := by decide +kernel
set_option maxRecDepth 20000 in
theorem ggX9_count_X9_mealsOfAll : GoodIn wsX9_count wsX9_mealsOfAll := goodIn_r _ [7, 1, 8, 9, 10, 6, 11, 18, 19, 20, 21, 22, 23, 24, 25, 26, 27, 28, 29, 30, 31, 32, 33, 34] (by decide +kernel) (by decide +kernel)
set_option maxRecDepth 20000 in
theorem gX9_count_X9_mealsOfAll : GoodIn wsX9_count (wsV RX9 303 RX9 yX9_mealsOfAll wsX9_mealsOfAll) := goodIn_app (goodIn_of _ (by decide +kernel)) ggX9_count_X9_mealsOfAll
set_option maxRecDepth 20000 in
theorem ggX9_count_X9_no : GoodIn wsX9_count wsX9_no := goodIn_r _ [15, 16, 17, 18, 19, 20, 21, 22, 23, 24, 25, 26, 27, 28, 29, 30, 31, 32, 33, 34] (by decide +kernel) (by decide +kernel)
set_option maxRecDepth 20000 in
theorem gX9_count_X9_no : GoodIn wsX9_count (wsV RX9 82 RX9 yX9_no wsX9_no) := goodIn_app (goodIn_of _ (by decide +kernel)) ggX9_count_X9_no
theorem dX9_count_0 : decode cX9_count 0 = .ok (.iload_n 1, 1) := by decide +kernel
theorem dX9_count_1 : decode cX9_count 1 = .ok (.tableswitch 55 0 3 #[31, 38, 45, 50], 31) := by decide +kernel
theorem dX9_count_32 : decode cX9_count 32 = .ok (.aload_n 0, 1) := by decide +kernel
theorem dX9_count_33 : decode cX9_count 33 = .ok (.getfield 9, 3) := by decide +kernel
theorem dX9_count_36 : decode cX9_count 36 = .ok (.iconst 1, 1) := by decide +kernel
theorem dX9_count_37 : decode cX9_count 37 = .ok (.iaload, 1) := by decide +kernel
theorem dX9_count_38 : decode cX9_count 38 = .ok (.ireturn, 1) := by decide +kernel
theorem dX9_count_39 : decode cX9_count 39 = .ok (.aload_n 0, 1) := by decide +kernel
theorem dX9_count_40 : decode cX9_count 40 = .ok (.getfield 9, 3) := by decide +kernel
theorem dX9_count_43 : decode cX9_count 43 = .ok (.iconst 2, 1) := by decide +kernel
theorem dX9_count_44 : decode cX9_count 44 = .ok (.iaload, 1) := by decide +kernel
theorem dX9_count_45 : decode cX9_count 45 = .ok (.ireturn, 1) := by decide +kernel
theorem dX9_count_46 : decode cX9_count 46 = .ok (.aload_n 0, 1) := by decide +kernel
theorem dX9_count_47 : decode cX9_count 47 = .ok (.getfield 170, 3) := by decide +kernel
theorem dX9_count_50 : decode cX9_count 50 = .ok (.ireturn, 1) := by decide +kernel
theorem dX9_count_51 : decode cX9_count 51 = .ok (.aload_n 0, 1) := by decide +kernel
theorem dX9_count_52 : decode cX9_count 52 = .ok (.invokevirtual 303, 3) := by decide +kernel
theorem dX9_count_55 : decode cX9_count 55 = .ok (.ireturn, 1) := by decide +kernel
theorem dX9_count_56 : decode cX9_count 56 = .ok (.aload_n 0, 1) := by decide +kernel
theorem dX9_count_57 : decode cX9_count 57 = .ok (.iconst 0, 1) := by decide +kernel
theorem dX9_count_58 : decode cX9_count 58 = .ok (.invokevirtual 82, 3) := by decide +kernel
theorem dX9_count_61 : decode cX9_count 61 = .ok (.ireturn, 1) := by decide +kernel
set_option maxRecDepth 20000 in
theorem ggX9_status_X9_in : GoodIn wsX9_status wsX9_in := goodIn_r _ [5] (by decide +kernel) (by decide +kernel)
set_option maxRecDepth 20000 in
theorem gX9_status_X9_in : GoodIn wsX9_status (va_wsS RX9 48 yX9_in wsX9_in) := goodIn_app (goodIn_of _ (by decide +kernel)) ggX9_status_X9_in
set_option maxRecDepth 20000 in
theorem ggX9_status_X9_no : GoodIn wsX9_status wsX9_no := goodIn_r _ [9, 1, 10, 11, 12, 13, 14, 15, 16, 17, 18, 19, 20, 21, 22, 23, 24, 25, 26, 27] (by decide +kernel) (by decide +kernel)
set_option maxRecDepth 20000 in
theorem gX9_status_X9_no : GoodIn wsX9_status (wsV RX9 82 RX9 yX9_no wsX9_no) := goodIn_app (goodIn_of _ (by decide +kernel)) ggX9_status_X9_no
theorem dX9_status_0 : decode cX9_status 0 = .ok (.iload_n 1, 1) := by decide +kernel
theorem dX9_status_1 : decode cX9_status 1 = .ok (.iconst (-1), 1) := by decide +kernel
theorem dX9_status_2 : decode cX9_status 2 = .ok (.bipush 6, 2) := by decide +kernel
theorem dX9_status_4 : decode cX9_status 4 = .ok (.invokestatic 48, 3) := by decide +kernel
theorem dX9_status_7 : decode cX9_status 7 = .ok (.ifCond .ne 9, 3) := by decide +kernel
theorem dX9_status_10 : decode cX9_status 10 = .ok (.aload_n 0, 1) := by decide +kernel
theorem dX9_status_11 : decode cX9_status 11 = .ok (.iconst 0, 1) := by decide +kernel
theorem dX9_status_12 : decode cX9_status 12 = .ok (.invokevirtual 82, 3) := by decide +kernel
theorem dX9_status_15 : decode cX9_status 15 = .ok (.ireturn, 1) := by decide +kernel
theorem dX9_status_16 : decode cX9_status 16 = .ok (.iconst 0, 1) := by decide +kernel
theorem dX9_status_17 : decode cX9_status 17 = .ok (.istore_n 2, 1) := by decide +kernel
theorem dX9_status_18 : decode cX9_status 18 = .ok (.iconst 0, 1) := by decide +kernel
theorem dX9_status_19 : decode cX9_status 19 = .ok (.istore_n 3, 1) := by decide +kernel
theorem dX9_status_20 : decode cX9_status 20 = .ok (.iload_n 3, 1) := by decide +kernel
theorem dX9_status_21 : decode cX9_status 21 = .ok (.bipush 7, 2) := by decide +kernel
theorem dX9_status_23 : decode cX9_status 23 = .ok (.if_icmp .ge 32, 3) := by decide +kernel
theorem dX9_status_26 : decode cX9_status 26 = .ok (.iload_n 2, 1) := by decide +kernel
theorem dX9_status_27 : decode cX9_status 27 = .ok (.iload_n 1, 1) := by decide +kernel
theorem dX9_status_28 : decode cX9_status 28 = .ok (.iconst (-1), 1) := by decide +kernel
theorem dX9_status_29 : decode cX9_status 29 = .ok (.if_icmp .eq 8, 3) := by decide +kernel
theorem dX9_status_32 : decode cX9_status 32 = .ok (.iload_n 1, 1) := by decide +kernel
theorem dX9_status_33 : decode cX9_status 33 = .ok (.iload_n 3, 1) := by decide +kernel
theorem dX9_status_34 : decode cX9_status 34 = .ok (.if_icmp .ne 12, 3) := by decide +kernel
theorem dX9_status_37 : decode cX9_status 37 = .ok (.aload_n 0, 1) := by decide +kernel
theorem dX9_status_38 : decode cX9_status 38 = .ok (.getfield 22, 3) := by decide +kernel
theorem dX9_status_41 : decode cX9_status 41 = .ok (.iload_n 3, 1) := by decide +kernel
theorem dX9_status_42 : decode cX9_status 42 = .ok (.iaload, 1) := by decide +kernel
theorem dX9_status_43 : decode cX9_status 43 = .ok (.goto 4, 3) := by decide +kernel
theorem dX9_status_46 : decode cX9_status 46 = .ok (.iconst 0, 1) := by decide +kernel
theorem dX9_status_47 : decode cX9_status 47 = .ok (.iadd, 1) := by decide +kernel
theorem dX9_status_48 : decode cX9_status 48 = .ok (.istore_n 2, 1) := by decide +kernel
theorem dX9_status_49 : decode cX9_status 49 = .ok (.iinc 3 1, 3) := by decide +kernel
theorem dX9_status_52 : decode cX9_status 52 = .ok (.goto (-32), 3) := by decide +kernel
theorem dX9_status_55 : decode cX9_status 55 = .ok (.iload_n 2, 1) := by decide +kernel
theorem dX9_status_56 : decode cX9_status 56 = .ok (.ireturn, 1) := by decide +kernel
