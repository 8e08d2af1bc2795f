theorem dX3_init_0 : decode cX3_init 0 = .ok (.aload_n 0, 1) := by decide +kernel
theorem dX3_init_1 : decode cX3_init 1 = .ok (.invokespecial 1, 3) := by decide +kernel
theorem dX3_init_4 : decode cX3_init 4 = .ok (.aload_n 0, 1) := by decide +kernel
theorem dX3_init_5 : decode cX3_init 5 = .ok (.bipush 8, 2) := by decide +kernel
theorem dX3_init_7 : decode cX3_init 7 = .ok (.newarray .int, 2) := by decide +kernel
theorem dX3_init_9 : decode cX3_init 9 = .ok (.putfield 7, 3) := by decide +kernel
theorem dX3_init_12 : decode cX3_init 12 = .ok (.aload_n 0, 1) := by decide +kernel
theorem dX3_init_13 : decode cX3_init 13 = .ok (.bipush 20, 2) := by decide +kernel
theorem dX3_init_15 : decode cX3_init 15 = .ok (.newarray .int, 2) := by decide +kernel
theorem dX3_init_17 : decode cX3_init 17 = .ok (.putfield 13, 3) := by decide +kernel
theorem dX3_init_20 : decode cX3_init 20 = .ok (.aload_n 0, 1) := by decide +kernel
theorem dX3_init_21 : decode cX3_init 21 = .ok (.bipush 20, 2) := by decide +kernel
theorem dX3_init_23 : decode cX3_init 23 = .ok (.newarray .int, 2) := by decide +kernel
theorem dX3_init_25 : decode cX3_init 25 = .ok (.putfield 16, 3) := by decide +kernel
theorem dX3_init_28 : decode cX3_init 28 = .ok (.aload_n 0, 1) := by decide +kernel
theorem dX3_init_29 : decode cX3_init 29 = .ok (.bipush 20, 2) := by decide +kernel
theorem dX3_init_31 : decode cX3_init 31 = .ok (.newarray .int, 2) := by decide +kernel
theorem dX3_init_33 : decode cX3_init 33 = .ok (.putfield 19, 3) := by decide +kernel
theorem dX3_init_36 : decode cX3_init 36 = .ok (.aload_n 0, 1) := by decide +kernel
theorem dX3_init_37 : decode cX3_init 37 = .ok (.bipush 20, 2) := by decide +kernel
theorem dX3_init_39 : decode cX3_init 39 = .ok (.newarray .int, 2) := by decide +kernel
theorem dX3_init_41 : decode cX3_init 41 = .ok (.putfield 22, 3) := by decide +kernel
theorem dX3_init_44 : decode cX3_init 44 = .ok (.aload_n 0, 1) := by decide +kernel
theorem dX3_init_45 : decode cX3_init 45 = .ok (.bipush 20, 2) := by decide +kernel
theorem dX3_init_47 : decode cX3_init 47 = .ok (.newarray .int, 2) := by decide +kernel
theorem dX3_init_49 : decode cX3_init 49 = .ok (.putfield 25, 3) := by decide +kernel
theorem dX3_init_52 : decode cX3_init 52 = .ok (.aload_n 0, 1) := by decide +kernel
theorem dX3_init_53 : decode cX3_init 53 = .ok (.bipush 20, 2) := by decide +kernel
theorem dX3_init_55 : decode cX3_init 55 = .ok (.newarray .int, 2) := by decide +kernel
theorem dX3_init_57 : decode cX3_init 57 = .ok (.putfield 28, 3) := by decide +kernel
theorem dX3_init_60 : decode cX3_init 60 = .ok (.aload_n 0, 1) := by decide +kernel
theorem dX3_init_61 : decode cX3_init 61 = .ok (.bipush 20, 2) := by decide +kernel
theorem dX3_init_63 : decode cX3_init 63 = .ok (.newarray .int, 2) := by decide +kernel
theorem dX3_init_65 : decode cX3_init 65 = .ok (.putfield 31, 3) := by decide +kernel
theorem dX3_init_68 : decode cX3_init 68 = .ok (.aload_n 0, 1) := by decide +kernel
theorem dX3_init_69 : decode cX3_init 69 = .ok (.bipush 20, 2) := by decide +kernel
theorem dX3_init_71 : decode cX3_init 71 = .ok (.newarray .int, 2) := by decide +kernel
theorem dX3_init_73 : decode cX3_init 73 = .ok (.putfield 34, 3) := by decide +kernel
theorem dX3_init_76 : decode cX3_init 76 = .ok (.aload_n 0, 1) := by decide +kernel
theorem dX3_init_77 : decode cX3_init 77 = .ok (.bipush 20, 2) := by decide +kernel
theorem dX3_init_79 : decode cX3_init 79 = .ok (.newarray .int, 2) := by decide +kernel
theorem dX3_init_81 : decode cX3_init 81 = .ok (.putfield 37, 3) := by decide +kernel
theorem dX3_init_84 : decode cX3_init 84 = .ok (.aload_n 0, 1) := by decide +kernel
theorem dX3_init_85 : decode cX3_init 85 = .ok (.bipush 20, 2) := by decide +kernel
theorem dX3_init_87 : decode cX3_init 87 = .ok (.newarray .int, 2) := by decide +kernel
theorem dX3_init_89 : decode cX3_init 89 = .ok (.putfield 40, 3) := by decide +kernel
theorem dX3_init_92 : decode cX3_init 92 = .ok (.aload_n 0, 1) := by decide +kernel
theorem dX3_init_93 : decode cX3_init 93 = .ok (.bipush 80, 2) := by decide +kernel
theorem dX3_init_95 : decode cX3_init 95 = .ok (.newarray .int, 2) := by decide +kernel
theorem dX3_init_97 : decode cX3_init 97 = .ok (.putfield 43, 3) := by decide +kernel
theorem dX3_init_100 : decode cX3_init 100 = .ok (.iconst 0, 1) := by decide +kernel
theorem dX3_init_101 : decode cX3_init 101 = .ok (.istore_n 1, 1) := by decide +kernel
theorem dX3_init_102 : decode cX3_init 102 = .ok (.iload_n 1, 1) := by decide +kernel
theorem dX3_init_103 : decode cX3_init 103 = .ok (.bipush 8, 2) := by decide +kernel
theorem dX3_init_105 : decode cX3_init 105 = .ok (.if_icmp .ge 16, 3) := by decide +kernel
theorem dX3_init_108 : decode cX3_init 108 = .ok (.aload_n 0, 1) := by decide +kernel
theorem dX3_init_109 : decode cX3_init 109 = .ok (.getfield 7, 3) := by decide +kernel
theorem dX3_init_112 : decode cX3_init 112 = .ok (.iload_n 1, 1) := by decide +kernel
theorem dX3_init_113 : decode cX3_init 113 = .ok (.iconst (-1), 1) := by decide +kernel
theorem dX3_init_114 : decode cX3_init 114 = .ok (.iastore, 1) := by decide +kernel
theorem dX3_init_115 : decode cX3_init 115 = .ok (.iinc 1 1, 3) := by decide +kernel
theorem dX3_init_118 : decode cX3_init 118 = .ok (.goto (-16), 3) := by decide +kernel
theorem dX3_init_121 : decode cX3_init 121 = .ok (.return_, 1) := by decide +kernel
theorem dX3_thrown_0 : decode cX3_thrown 0 = .ok (.aload_n 0, 1) := by decide +kernel
theorem dX3_thrown_1 : decode cX3_thrown 1 = .ok (.getfield 46, 3) := by decide +kernel
theorem dX3_thrown_4 : decode cX3_thrown 4 = .ok (.ireturn, 1) := by decide +kernel
theorem dX3_holds_0 : decode cX3_holds 0 = .ok (.aload_n 0, 1) := by decide +kernel
theorem dX3_holds_1 : decode cX3_holds 1 = .ok (.iload_n 1, 1) := by decide +kernel
theorem dX3_holds_2 : decode cX3_holds 2 = .ok (.putfield 46, 3) := by decide +kernel
theorem dX3_holds_5 : decode cX3_holds 5 = .ok (.iload_n 1, 1) := by decide +kernel
theorem dX3_holds_6 : decode cX3_holds 6 = .ok (.ifCond .le 7, 3) := by decide +kernel
theorem dX3_holds_9 : decode cX3_holds 9 = .ok (.iconst 1, 1) := by decide +kernel
theorem dX3_holds_10 : decode cX3_holds 10 = .ok (.goto 4, 3) := by decide +kernel
theorem dX3_holds_13 : decode cX3_holds 13 = .ok (.iconst 0, 1) := by decide +kernel
theorem dX3_holds_14 : decode cX3_holds 14 = .ok (.ireturn, 1) := by decide +kernel
theorem dX3_in_0 : decode cX3_in 0 = .ok (.iload_n 1, 1) := by decide +kernel
theorem dX3_in_1 : decode cX3_in 1 = .ok (.iload_n 2, 1) := by decide +kernel
theorem dX3_in_2 : decode cX3_in 2 = .ok (.if_icmp .lt 12, 3) := by decide +kernel
theorem dX3_in_5 : decode cX3_in 5 = .ok (.iload_n 1, 1) := by decide +kernel
theorem dX3_in_6 : decode cX3_in 6 = .ok (.iload_n 3, 1) := by decide +kernel
theorem dX3_in_7 : decode cX3_in 7 = .ok (.if_icmp .gt 7, 3) := by decide +kernel
theorem dX3_in_10 : decode cX3_in 10 = .ok (.iconst 1, 1) := by decide +kernel
theorem dX3_in_11 : decode cX3_in 11 = .ok (.goto 4, 3) := by decide +kernel
theorem dX3_in_14 : decode cX3_in 14 = .ok (.iconst 0, 1) := by decide +kernel
theorem dX3_in_15 : decode cX3_in 15 = .ok (.ireturn, 1) := by decide +kernel
theorem dX3_percent_0 : decode cX3_percent 0 = .ok (.iload_n 1, 1) := by decide +kernel
theorem dX3_percent_1 : decode cX3_percent 1 = .ok (.ifCond .ne 8, 3) := by decide +kernel
theorem dX3_percent_4 : decode cX3_percent 4 = .ok (.bipush 82, 2) := by decide +kernel
theorem dX3_percent_6 : decode cX3_percent 6 = .ok (.goto 15, 3) := by decide +kernel
theorem dX3_percent_9 : decode cX3_percent 9 = .ok (.iload_n 1, 1) := by decide +kernel
theorem dX3_percent_10 : decode cX3_percent 10 = .ok (.iconst 1, 1) := by decide +kernel
theorem dX3_percent_11 : decode cX3_percent 11 = .ok (.if_icmp .ne 8, 3) := by decide +kernel
theorem dX3_percent_14 : decode cX3_percent 14 = .ok (.bipush 75, 2) := by decide +kernel
theorem dX3_percent_16 : decode cX3_percent 16 = .ok (.goto 5, 3) := by decide +kernel
theorem dX3_percent_19 : decode cX3_percent 19 = .ok (.bipush 66, 2) := by decide +kernel
theorem dX3_percent_21 : decode cX3_percent 21 = .ok (.ireturn, 1) := by decide +kernel
theorem dX3_days_0 : decode cX3_days 0 = .ok (.iload_n 1, 1) := by decide +kernel
theorem dX3_days_1 : decode cX3_days 1 = .ok (.ifCond .ne 7, 3) := by decide +kernel
theorem dX3_days_4 : decode cX3_days 4 = .ok (.iconst 4, 1) := by decide +kernel
theorem dX3_days_5 : decode cX3_days 5 = .ok (.goto 15, 3) := by decide +kernel
theorem dX3_days_8 : decode cX3_days 8 = .ok (.iload_n 1, 1) := by decide +kernel
theorem dX3_days_9 : decode cX3_days 9 = .ok (.iconst 1, 1) := by decide +kernel
theorem dX3_days_10 : decode cX3_days 10 = .ok (.if_icmp .ne 8, 3) := by decide +kernel
theorem dX3_days_13 : decode cX3_days 13 = .ok (.bipush 7, 2) := by decide +kernel
theorem dX3_days_15 : decode cX3_days 15 = .ok (.goto 5, 3) := by decide +kernel
theorem dX3_days_18 : decode cX3_days 18 = .ok (.bipush 12, 2) := by decide +kernel
theorem dX3_days_20 : decode cX3_days 20 = .ok (.ireturn, 1) := by decide +kernel
theorem dX3_classOf_0 : decode cX3_classOf 0 = .ok (.iload_n 1, 1) := by decide +kernel
theorem dX3_classOf_1 : decode cX3_classOf 1 = .ok (.bipush 28, 2) := by decide +kernel
theorem dX3_classOf_3 : decode cX3_classOf 3 = .ok (.if_icmp .gt 7, 3) := by decide +kernel
theorem dX3_classOf_6 : decode cX3_classOf 6 = .ok (.iconst 0, 1) := by decide +kernel
theorem dX3_classOf_7 : decode cX3_classOf 7 = .ok (.goto 24, 3) := by decide +kernel
theorem dX3_classOf_10 : decode cX3_classOf 10 = .ok (.iload_n 1, 1) := by decide +kernel
theorem dX3_classOf_11 : decode cX3_classOf 11 = .ok (.bipush 50, 2) := by decide +kernel
theorem dX3_classOf_13 : decode cX3_classOf 13 = .ok (.if_icmp .gt 7, 3) := by decide +kernel
theorem dX3_classOf_16 : decode cX3_classOf 16 = .ok (.iconst 1, 1) := by decide +kernel
theorem dX3_classOf_17 : decode cX3_classOf 17 = .ok (.goto 14, 3) := by decide +kernel
theorem dX3_classOf_20 : decode cX3_classOf 20 = .ok (.iload_n 1, 1) := by decide +kernel
theorem dX3_classOf_21 : decode cX3_classOf 21 = .ok (.bipush 75, 2) := by decide +kernel
theorem dX3_classOf_23 : decode cX3_classOf 23 = .ok (.if_icmp .gt 7, 3) := by decide +kernel
theorem dX3_classOf_26 : decode cX3_classOf 26 = .ok (.iconst 2, 1) := by decide +kernel
theorem dX3_classOf_27 : decode cX3_classOf 27 = .ok (.goto 4, 3) := by decide +kernel
theorem dX3_classOf_30 : decode cX3_classOf 30 = .ok (.iconst 3, 1) := by decide +kernel
theorem dX3_classOf_31 : decode cX3_classOf 31 = .ok (.ireturn, 1) := by decide +kernel
theorem dX3_stamp_0 : decode cX3_stamp 0 = .ok (.iload_n 1, 1) := by decide +kernel
theorem dX3_stamp_1 : decode cX3_stamp 1 = .ok (.ifCond .ne 7, 3) := by decide +kernel
theorem dX3_stamp_4 : decode cX3_stamp 4 = .ok (.iconst 1, 1) := by decide +kernel
theorem dX3_stamp_5 : decode cX3_stamp 5 = .ok (.goto 24, 3) := by decide +kernel
theorem dX3_stamp_8 : decode cX3_stamp 8 = .ok (.iload_n 1, 1) := by decide +kernel
theorem dX3_stamp_9 : decode cX3_stamp 9 = .ok (.iconst 1, 1) := by decide +kernel
theorem dX3_stamp_10 : decode cX3_stamp 10 = .ok (.if_icmp .ne 7, 3) := by decide +kernel
theorem dX3_stamp_13 : decode cX3_stamp 13 = .ok (.iconst 3, 1) := by decide +kernel
theorem dX3_stamp_14 : decode cX3_stamp 14 = .ok (.goto 15, 3) := by decide +kernel
theorem dX3_stamp_17 : decode cX3_stamp 17 = .ok (.iload_n 1, 1) := by decide +kernel
theorem dX3_stamp_18 : decode cX3_stamp 18 = .ok (.iconst 2, 1) := by decide +kernel
theorem dX3_stamp_19 : decode cX3_stamp 19 = .ok (.if_icmp .ne 8, 3) := by decide +kernel
theorem dX3_stamp_22 : decode cX3_stamp 22 = .ok (.bipush 6, 2) := by decide +kernel
theorem dX3_stamp_24 : decode cX3_stamp 24 = .ok (.goto 5, 3) := by decide +kernel
theorem dX3_stamp_27 : decode cX3_stamp 27 = .ok (.bipush 12, 2) := by decide +kernel
theorem dX3_stamp_29 : decode cX3_stamp 29 = .ok (.ireturn, 1) := by decide +kernel
set_option maxRecDepth 20000 in
theorem ggX3_brew_X3_in : GoodIn wsX3_brew wsX3_in := goodIn_r _ [14] (by decide +kernel) (by decide +kernel)
set_option maxRecDepth 20000 in
theorem gX3_brew_X3_in : GoodIn wsX3_brew (wsV RX3 50 RX3 yX3_in wsX3_in) := goodIn_app (goodIn_of _ (by decide +kernel)) ggX3_brew_X3_in
set_option maxRecDepth 20000 in
theorem ggX3_brew_X3_holds : GoodIn wsX3_brew wsX3_holds := goodIn_r _ [18, 19, 24, 25, 26, 27, 28, 29, 30, 31, 32, 33, 34, 35, 36, 37, 38, 39, 40] (by decide +kernel) (by decide +kernel)
set_option maxRecDepth 20000 in
theorem gX3_brew_X3_holds : GoodIn wsX3_brew (wsV RX3 57 RX3 yX3_holds wsX3_holds) := goodIn_app (goodIn_of _ (by decide +kernel)) ggX3_brew_X3_holds
set_option maxRecDepth 20000 in
theorem ggX3_brew_X3_percent : GoodIn wsX3_brew wsX3_percent := goodIn_r _ [23] (by decide +kernel) (by decide +kernel)
set_option maxRecDepth 20000 in
theorem gX3_brew_X3_percent : GoodIn wsX3_brew (wsV RX3 64 RX3 yX3_percent wsX3_percent) := goodIn_app (goodIn_of _ (by decide +kernel)) ggX3_brew_X3_percent
theorem dX3_brew_0 : decode cX3_brew 0 = .ok (.aload_n 0, 1) := by decide +kernel
theorem dX3_brew_1 : decode cX3_brew 1 = .ok (.iload_n 1, 1) := by decide +kernel
theorem dX3_brew_2 : decode cX3_brew 2 = .ok (.iconst 0, 1) := by decide +kernel
theorem dX3_brew_3 : decode cX3_brew 3 = .ok (.bipush 7, 2) := by decide +kernel
theorem dX3_brew_5 : decode cX3_brew 5 = .ok (.invokevirtual 50, 3) := by decide +kernel
theorem dX3_brew_8 : decode cX3_brew 8 = .ok (.ifCond .eq 18, 3) := by decide +kernel
theorem dX3_brew_11 : decode cX3_brew 11 = .ok (.aload_n 0, 1) := by decide +kernel
theorem dX3_brew_12 : decode cX3_brew 12 = .ok (.iload 4, 2) := by decide +kernel
theorem dX3_brew_14 : decode cX3_brew 14 = .ok (.iconst 0, 1) := by decide +kernel
theorem dX3_brew_15 : decode cX3_brew 15 = .ok (.iconst 2, 1) := by decide +kernel
theorem dX3_brew_16 : decode cX3_brew 16 = .ok (.invokevirtual 50, 3) := by decide +kernel
theorem dX3_brew_19 : decode cX3_brew 19 = .ok (.ifCond .eq 7, 3) := by decide +kernel
theorem dX3_brew_22 : decode cX3_brew 22 = .ok (.iconst 1, 1) := by decide +kernel
theorem dX3_brew_23 : decode cX3_brew 23 = .ok (.goto 4, 3) := by decide +kernel
theorem dX3_brew_26 : decode cX3_brew 26 = .ok (.iconst 0, 1) := by decide +kernel
theorem dX3_brew_27 : decode cX3_brew 27 = .ok (.istore 5, 2) := by decide +kernel
theorem dX3_brew_29 : decode cX3_brew 29 = .ok (.aload_n 0, 1) := by decide +kernel
theorem dX3_brew_30 : decode cX3_brew 30 = .ok (.iload_n 2, 1) := by decide +kernel
theorem dX3_brew_31 : decode cX3_brew 31 = .ok (.iconst 1, 1) := by decide +kernel
theorem dX3_brew_32 : decode cX3_brew 32 = .ok (.sipush 1000, 3) := by decide +kernel
theorem dX3_brew_35 : decode cX3_brew 35 = .ok (.invokevirtual 50, 3) := by decide +kernel
theorem dX3_brew_38 : decode cX3_brew 38 = .ok (.ifCond .eq 20, 3) := by decide +kernel
theorem dX3_brew_41 : decode cX3_brew 41 = .ok (.aload_n 0, 1) := by decide +kernel
theorem dX3_brew_42 : decode cX3_brew 42 = .ok (.iload_n 3, 1) := by decide +kernel
theorem dX3_brew_43 : decode cX3_brew 43 = .ok (.bipush 50, 2) := by decide +kernel
theorem dX3_brew_45 : decode cX3_brew 45 = .ok (.sipush 300, 3) := by decide +kernel
theorem dX3_brew_48 : decode cX3_brew 48 = .ok (.invokevirtual 50, 3) := by decide +kernel
theorem dX3_brew_51 : decode cX3_brew 51 = .ok (.ifCond .eq 7, 3) := by decide +kernel
theorem dX3_brew_54 : decode cX3_brew 54 = .ok (.iconst 1, 1) := by decide +kernel
theorem dX3_brew_55 : decode cX3_brew 55 = .ok (.goto 4, 3) := by decide +kernel
theorem dX3_brew_58 : decode cX3_brew 58 = .ok (.iconst 0, 1) := by decide +kernel
theorem dX3_brew_59 : decode cX3_brew 59 = .ok (.istore 6, 2) := by decide +kernel
theorem dX3_brew_61 : decode cX3_brew 61 = .ok (.aload_n 0, 1) := by decide +kernel
theorem dX3_brew_62 : decode cX3_brew 62 = .ok (.iload 5, 2) := by decide +kernel
theorem dX3_brew_64 : decode cX3_brew 64 = .ok (.ifCond .ne 7, 3) := by decide +kernel
theorem dX3_brew_67 : decode cX3_brew 67 = .ok (.iconst 1, 1) := by decide +kernel
theorem dX3_brew_68 : decode cX3_brew 68 = .ok (.goto 35, 3) := by decide +kernel
theorem dX3_brew_71 : decode cX3_brew 71 = .ok (.iload 6, 2) := by decide +kernel
theorem dX3_brew_73 : decode cX3_brew 73 = .ok (.ifCond .ne 7, 3) := by decide +kernel
theorem dX3_brew_76 : decode cX3_brew 76 = .ok (.iconst 2, 1) := by decide +kernel
theorem dX3_brew_77 : decode cX3_brew 77 = .ok (.goto 26, 3) := by decide +kernel
theorem dX3_brew_80 : decode cX3_brew 80 = .ok (.aload_n 0, 1) := by decide +kernel
theorem dX3_brew_81 : decode cX3_brew 81 = .ok (.getfield 7, 3) := by decide +kernel
theorem dX3_brew_84 : decode cX3_brew 84 = .ok (.iload_n 1, 1) := by decide +kernel
theorem dX3_brew_85 : decode cX3_brew 85 = .ok (.iaload, 1) := by decide +kernel
theorem dX3_brew_86 : decode cX3_brew 86 = .ok (.ifCond .ge 12, 3) := by decide +kernel
theorem dX3_brew_89 : decode cX3_brew 89 = .ok (.aload_n 0, 1) := by decide +kernel
theorem dX3_brew_90 : decode cX3_brew 90 = .ok (.getfield 54, 3) := by decide +kernel
theorem dX3_brew_93 : decode cX3_brew 93 = .ok (.bipush 20, 2) := by decide +kernel
theorem dX3_brew_95 : decode cX3_brew 95 = .ok (.if_icmp .ne 7, 3) := by decide +kernel
theorem dX3_brew_98 : decode cX3_brew 98 = .ok (.iconst 3, 1) := by decide +kernel
theorem dX3_brew_99 : decode cX3_brew 99 = .ok (.goto 4, 3) := by decide +kernel
theorem dX3_brew_102 : decode cX3_brew 102 = .ok (.iconst 0, 1) := by decide +kernel
theorem dX3_brew_103 : decode cX3_brew 103 = .ok (.invokevirtual 57, 3) := by decide +kernel
theorem dX3_brew_106 : decode cX3_brew 106 = .ok (.ifCond .eq 5, 3) := by decide +kernel
theorem dX3_brew_109 : decode cX3_brew 109 = .ok (.iconst (-1), 1) := by decide +kernel
theorem dX3_brew_110 : decode cX3_brew 110 = .ok (.ireturn, 1) := by decide +kernel
theorem dX3_brew_111 : decode cX3_brew 111 = .ok (.aload_n 0, 1) := by decide +kernel
theorem dX3_brew_112 : decode cX3_brew 112 = .ok (.getfield 54, 3) := by decide +kernel
theorem dX3_brew_115 : decode cX3_brew 115 = .ok (.istore 7, 2) := by decide +kernel
theorem dX3_brew_117 : decode cX3_brew 117 = .ok (.aload_n 0, 1) := by decide +kernel
theorem dX3_brew_118 : decode cX3_brew 118 = .ok (.getfield 13, 3) := by decide +kernel
theorem dX3_brew_121 : decode cX3_brew 121 = .ok (.iload 7, 2) := by decide +kernel
theorem dX3_brew_123 : decode cX3_brew 123 = .ok (.iload_n 1, 1) := by decide +kernel
theorem dX3_brew_124 : decode cX3_brew 124 = .ok (.iastore, 1) := by decide +kernel
theorem dX3_brew_125 : decode cX3_brew 125 = .ok (.aload_n 0, 1) := by decide +kernel
theorem dX3_brew_126 : decode cX3_brew 126 = .ok (.getfield 16, 3) := by decide +kernel
theorem dX3_brew_129 : decode cX3_brew 129 = .ok (.iload 7, 2) := by decide +kernel
theorem dX3_brew_131 : decode cX3_brew 131 = .ok (.iload_n 2, 1) := by decide +kernel
theorem dX3_brew_132 : decode cX3_brew 132 = .ok (.iastore, 1) := by decide +kernel
theorem dX3_brew_133 : decode cX3_brew 133 = .ok (.aload_n 0, 1) := by decide +kernel
theorem dX3_brew_134 : decode cX3_brew 134 = .ok (.getfield 19, 3) := by decide +kernel
theorem dX3_brew_137 : decode cX3_brew 137 = .ok (.iload 7, 2) := by decide +kernel
theorem dX3_brew_139 : decode cX3_brew 139 = .ok (.aload_n 0, 1) := by decide +kernel
theorem dX3_brew_140 : decode cX3_brew 140 = .ok (.getfield 61, 3) := by decide +kernel
theorem dX3_brew_143 : decode cX3_brew 143 = .ok (.iastore, 1) := by decide +kernel
theorem dX3_brew_144 : decode cX3_brew 144 = .ok (.aload_n 0, 1) := by decide +kernel
theorem dX3_brew_145 : decode cX3_brew 145 = .ok (.getfield 22, 3) := by decide +kernel
theorem dX3_brew_148 : decode cX3_brew 148 = .ok (.iload 7, 2) := by decide +kernel
theorem dX3_brew_150 : decode cX3_brew 150 = .ok (.iload 4, 2) := by decide +kernel
theorem dX3_brew_152 : decode cX3_brew 152 = .ok (.iastore, 1) := by decide +kernel
theorem dX3_brew_153 : decode cX3_brew 153 = .ok (.aload_n 0, 1) := by decide +kernel
theorem dX3_brew_154 : decode cX3_brew 154 = .ok (.getfield 25, 3) := by decide +kernel
theorem dX3_brew_157 : decode cX3_brew 157 = .ok (.iload 7, 2) := by decide +kernel
theorem dX3_brew_159 : decode cX3_brew 159 = .ok (.iload_n 3, 1) := by decide +kernel
theorem dX3_brew_160 : decode cX3_brew 160 = .ok (.aload_n 0, 1) := by decide +kernel
theorem dX3_brew_161 : decode cX3_brew 161 = .ok (.iload 4, 2) := by decide +kernel
theorem dX3_brew_163 : decode cX3_brew 163 = .ok (.invokevirtual 64, 3) := by decide +kernel
theorem dX3_brew_166 : decode cX3_brew 166 = .ok (.imul, 1) := by decide +kernel
theorem dX3_brew_167 : decode cX3_brew 167 = .ok (.sipush 200, 3) := by decide +kernel
theorem dX3_brew_170 : decode cX3_brew 170 = .ok (.idiv, 1) := by decide +kernel
theorem dX3_brew_171 : decode cX3_brew 171 = .ok (.iastore, 1) := by decide +kernel
theorem dX3_brew_172 : decode cX3_brew 172 = .ok (.aload_n 0, 1) := by decide +kernel
theorem dX3_brew_173 : decode cX3_brew 173 = .ok (.getfield 40, 3) := by decide +kernel
theorem dX3_brew_176 : decode cX3_brew 176 = .ok (.iload 7, 2) := by decide +kernel
theorem dX3_brew_178 : decode cX3_brew 178 = .ok (.iconst (-1), 1) := by decide +kernel
theorem dX3_brew_179 : decode cX3_brew 179 = .ok (.iastore, 1) := by decide +kernel
theorem dX3_brew_180 : decode cX3_brew 180 = .ok (.aload_n 0, 1) := by decide +kernel
theorem dX3_brew_181 : decode cX3_brew 181 = .ok (.getfield 7, 3) := by decide +kernel
theorem dX3_brew_184 : decode cX3_brew 184 = .ok (.iload_n 1, 1) := by decide +kernel
theorem dX3_brew_185 : decode cX3_brew 185 = .ok (.iload 7, 2) := by decide +kernel
theorem dX3_brew_187 : decode cX3_brew 187 = .ok (.iastore, 1) := by decide +kernel
theorem dX3_brew_188 : decode cX3_brew 188 = .ok (.aload_n 0, 1) := by decide +kernel
theorem dX3_brew_189 : decode cX3_brew 189 = .ok (.dup, 1) := by decide +kernel
theorem dX3_brew_190 : decode cX3_brew 190 = .ok (.getfield 54, 3) := by decide +kernel
theorem dX3_brew_193 : decode cX3_brew 193 = .ok (.iconst 1, 1) := by decide +kernel
theorem dX3_brew_194 : decode cX3_brew 194 = .ok (.iadd, 1) := by decide +kernel
theorem dX3_brew_195 : decode cX3_brew 195 = .ok (.putfield 54, 3) := by decide +kernel
theorem dX3_brew_198 : decode cX3_brew 198 = .ok (.iload 7, 2) := by decide +kernel
theorem dX3_brew_200 : decode cX3_brew 200 = .ok (.ireturn, 1) := by decide +kernel
set_option maxRecDepth 20000 in
theorem ggX3_pass_X3_in : GoodIn wsX3_pass wsX3_in := goodIn_r _ [6] (by decide +kernel) (by decide +kernel)
set_option maxRecDepth 20000 in
theorem gX3_pass_X3_in : GoodIn wsX3_pass (wsV RX3 50 RX3 yX3_in wsX3_in) := goodIn_app (goodIn_of _ (by decide +kernel)) ggX3_pass_X3_in
set_option maxRecDepth 20000 in
theorem ggX3_pass_X3_holds : GoodIn wsX3_pass wsX3_holds := goodIn_r _ [10, 11, 12, 13, 14, 15, 16, 17, 18, 19, 20, 21, 22, 23, 24, 25, 26, 27, 28] (by decide +kernel) (by decide +kernel)
set_option maxRecDepth 20000 in
theorem gX3_pass_X3_holds : GoodIn wsX3_pass (wsV RX3 57 RX3 yX3_holds wsX3_holds) := goodIn_app (goodIn_of _ (by decide +kernel)) ggX3_pass_X3_holds
theorem dX3_pass_0 : decode cX3_pass 0 = .ok (.aload_n 0, 1) := by decide +kernel
theorem dX3_pass_1 : decode cX3_pass 1 = .ok (.aload_n 0, 1) := by decide +kernel
theorem dX3_pass_2 : decode cX3_pass 2 = .ok (.iload_n 1, 1) := by decide +kernel
theorem dX3_pass_3 : decode cX3_pass 3 = .ok (.iconst 1, 1) := by decide +kernel
theorem dX3_pass_4 : decode cX3_pass 4 = .ok (.bipush 100, 2) := by decide +kernel
theorem dX3_pass_6 : decode cX3_pass 6 = .ok (.invokevirtual 50, 3) := by decide +kernel
theorem dX3_pass_9 : decode cX3_pass 9 = .ok (.ifCond .eq 7, 3) := by decide +kernel
theorem dX3_pass_12 : decode cX3_pass 12 = .ok (.iconst 0, 1) := by decide +kernel
theorem dX3_pass_13 : decode cX3_pass 13 = .ok (.goto 4, 3) := by decide +kernel
theorem dX3_pass_16 : decode cX3_pass 16 = .ok (.iconst 1, 1) := by decide +kernel
theorem dX3_pass_17 : decode cX3_pass 17 = .ok (.invokevirtual 57, 3) := by decide +kernel
theorem dX3_pass_20 : decode cX3_pass 20 = .ok (.ifCond .eq 5, 3) := by decide +kernel
theorem dX3_pass_23 : decode cX3_pass 23 = .ok (.iconst (-1), 1) := by decide +kernel
theorem dX3_pass_24 : decode cX3_pass 24 = .ok (.ireturn, 1) := by decide +kernel
theorem dX3_pass_25 : decode cX3_pass 25 = .ok (.aload_n 0, 1) := by decide +kernel
theorem dX3_pass_26 : decode cX3_pass 26 = .ok (.dup, 1) := by decide +kernel
theorem dX3_pass_27 : decode cX3_pass 27 = .ok (.getfield 61, 3) := by decide +kernel
theorem dX3_pass_30 : decode cX3_pass 30 = .ok (.iload_n 1, 1) := by decide +kernel
theorem dX3_pass_31 : decode cX3_pass 31 = .ok (.iadd, 1) := by decide +kernel
theorem dX3_pass_32 : decode cX3_pass 32 = .ok (.putfield 61, 3) := by decide +kernel
theorem dX3_pass_35 : decode cX3_pass 35 = .ok (.aload_n 0, 1) := by decide +kernel
theorem dX3_pass_36 : decode cX3_pass 36 = .ok (.getfield 61, 3) := by decide +kernel
theorem dX3_pass_39 : decode cX3_pass 39 = .ok (.ireturn, 1) := by decide +kernel
set_option maxRecDepth 20000 in
theorem ggX3_isBrew_X3_in : GoodIn wsX3_isBrew wsX3_in := goodIn_r _ [6] (by decide +kernel) (by decide +kernel)
set_option maxRecDepth 20000 in
theorem gX3_isBrew_X3_in : GoodIn wsX3_isBrew (wsV RX3 50 RX3 yX3_in wsX3_in) := goodIn_app (goodIn_of _ (by decide +kernel)) ggX3_isBrew_X3_in
theorem dX3_isBrew_0 : decode cX3_isBrew 0 = .ok (.aload_n 0, 1) := by decide +kernel
theorem dX3_isBrew_1 : decode cX3_isBrew 1 = .ok (.iload_n 1, 1) := by decide +kernel
theorem dX3_isBrew_2 : decode cX3_isBrew 2 = .ok (.iconst 0, 1) := by decide +kernel
theorem dX3_isBrew_3 : decode cX3_isBrew 3 = .ok (.aload_n 0, 1) := by decide +kernel
theorem dX3_isBrew_4 : decode cX3_isBrew 4 = .ok (.getfield 54, 3) := by decide +kernel
theorem dX3_isBrew_7 : decode cX3_isBrew 7 = .ok (.iconst 1, 1) := by decide +kernel
theorem dX3_isBrew_8 : decode cX3_isBrew 8 = .ok (.isub, 1) := by decide +kernel
theorem dX3_isBrew_9 : decode cX3_isBrew 9 = .ok (.invokevirtual 50, 3) := by decide +kernel
theorem dX3_isBrew_12 : decode cX3_isBrew 12 = .ok (.ireturn, 1) := by decide +kernel
set_option maxRecDepth 20000 in
theorem ggX3_isRipe_X3_days : GoodIn wsX3_isRipe wsX3_days := goodIn_r _ [9] (by decide +kernel) (by decide +kernel)
set_option maxRecDepth 20000 in
theorem gX3_isRipe_X3_days : GoodIn wsX3_isRipe (wsV RX3 68 RX3 yX3_days wsX3_days) := goodIn_app (goodIn_of _ (by decide +kernel)) ggX3_isRipe_X3_days
theorem dX3_isRipe_0 : decode cX3_isRipe 0 = .ok (.aload_n 0, 1) := by decide +kernel
theorem dX3_isRipe_1 : decode cX3_isRipe 1 = .ok (.getfield 16, 3) := by decide +kernel
theorem dX3_isRipe_4 : decode cX3_isRipe 4 = .ok (.iload_n 1, 1) := by decide +kernel
theorem dX3_isRipe_5 : decode cX3_isRipe 5 = .ok (.iaload, 1) := by decide +kernel
theorem dX3_isRipe_6 : decode cX3_isRipe 6 = .ok (.ifCond .le 31, 3) := by decide +kernel
theorem dX3_isRipe_9 : decode cX3_isRipe 9 = .ok (.aload_n 0, 1) := by decide +kernel
theorem dX3_isRipe_10 : decode cX3_isRipe 10 = .ok (.getfield 61, 3) := by decide +kernel
theorem dX3_isRipe_13 : decode cX3_isRipe 13 = .ok (.aload_n 0, 1) := by decide +kernel
theorem dX3_isRipe_14 : decode cX3_isRipe 14 = .ok (.getfield 19, 3) := by decide +kernel
theorem dX3_isRipe_17 : decode cX3_isRipe 17 = .ok (.iload_n 1, 1) := by decide +kernel
theorem dX3_isRipe_18 : decode cX3_isRipe 18 = .ok (.iaload, 1) := by decide +kernel
theorem dX3_isRipe_19 : decode cX3_isRipe 19 = .ok (.isub, 1) := by decide +kernel
theorem dX3_isRipe_20 : decode cX3_isRipe 20 = .ok (.aload_n 0, 1) := by decide +kernel
theorem dX3_isRipe_21 : decode cX3_isRipe 21 = .ok (.aload_n 0, 1) := by decide +kernel
theorem dX3_isRipe_22 : decode cX3_isRipe 22 = .ok (.getfield 22, 3) := by decide +kernel
theorem dX3_isRipe_25 : decode cX3_isRipe 25 = .ok (.iload_n 1, 1) := by decide +kernel
theorem dX3_isRipe_26 : decode cX3_isRipe 26 = .ok (.iaload, 1) := by decide +kernel
theorem dX3_isRipe_27 : decode cX3_isRipe 27 = .ok (.invokevirtual 68, 3) := by decide +kernel
theorem dX3_isRipe_30 : decode cX3_isRipe 30 = .ok (.if_icmp .lt 7, 3) := by decide +kernel
theorem dX3_isRipe_33 : decode cX3_isRipe 33 = .ok (.iconst 1, 1) := by decide +kernel
theorem dX3_isRipe_34 : decode cX3_isRipe 34 = .ok (.goto 4, 3) := by decide +kernel
theorem dX3_isRipe_37 : decode cX3_isRipe 37 = .ok (.iconst 0, 1) := by decide +kernel
theorem dX3_isRipe_38 : decode cX3_isRipe 38 = .ok (.ireturn, 1) := by decide +kernel
theorem dX3_voids_0 : decode cX3_voids 0 = .ok (.aload_n 0, 1) := by decide +kernel
theorem dX3_voids_1 : decode cX3_voids 1 = .ok (.getfield 37, 3) := by decide +kernel
theorem dX3_voids_4 : decode cX3_voids 4 = .ok (.iload_n 1, 1) := by decide +kernel
theorem dX3_voids_5 : decode cX3_voids 5 = .ok (.dup2, 1) := by decide +kernel
theorem dX3_voids_6 : decode cX3_voids 6 = .ok (.iaload, 1) := by decide +kernel
theorem dX3_voids_7 : decode cX3_voids 7 = .ok (.aload_n 0, 1) := by decide +kernel
theorem dX3_voids_8 : decode cX3_voids 8 = .ok (.getfield 31, 3) := by decide +kernel
theorem dX3_voids_11 : decode cX3_voids 11 = .ok (.iload_n 1, 1) := by decide +kernel
theorem dX3_voids_12 : decode cX3_voids 12 = .ok (.iaload, 1) := by decide +kernel
theorem dX3_voids_13 : decode cX3_voids 13 = .ok (.iadd, 1) := by decide +kernel
theorem dX3_voids_14 : decode cX3_voids 14 = .ok (.iastore, 1) := by decide +kernel
theorem dX3_voids_15 : decode cX3_voids 15 = .ok (.aload_n 0, 1) := by decide +kernel
theorem dX3_voids_16 : decode cX3_voids 16 = .ok (.getfield 31, 3) := by decide +kernel
theorem dX3_voids_19 : decode cX3_voids 19 = .ok (.iload_n 1, 1) := by decide +kernel
theorem dX3_voids_20 : decode cX3_voids 20 = .ok (.iconst 0, 1) := by decide +kernel
theorem dX3_voids_21 : decode cX3_voids 21 = .ok (.iastore, 1) := by decide +kernel
theorem dX3_voids_22 : decode cX3_voids 22 = .ok (.return_, 1) := by decide +kernel
set_option maxRecDepth 20000 in
theorem ggX3_print_X3_isBrew : GoodIn wsX3_print wsX3_isBrew := goodIn_r _ [10, 11, 12, 13, 14, 9, 15, 30, 31, 32, 33, 34, 35, 36, 37, 38, 39, 40, 41, 42, 43, 44, 45, 46] (by decide +kernel) (by decide +kernel)
set_option maxRecDepth 20000 in
theorem gX3_print_X3_isBrew : GoodIn wsX3_print (wsV RX3 71 RX3 yX3_isBrew wsX3_isBrew) := goodIn_app (goodIn_of _ (by decide +kernel)) ggX3_print_X3_isBrew
set_option maxRecDepth 20000 in
theorem ggX3_print_X3_classOf : GoodIn wsX3_print wsX3_classOf := goodIn_r _ [19] (by decide +kernel) (by decide +kernel)
set_option maxRecDepth 20000 in
theorem gX3_print_X3_classOf : GoodIn wsX3_print (wsV RX3 74 RX3 yX3_classOf wsX3_classOf) := goodIn_app (goodIn_of _ (by decide +kernel)) ggX3_print_X3_classOf
set_option maxRecDepth 20000 in
theorem ggX3_print_X3_in : GoodIn wsX3_print wsX3_in := goodIn_r _ [15] (by decide +kernel) (by decide +kernel)
set_option maxRecDepth 20000 in
theorem gX3_print_X3_in : GoodIn wsX3_print (wsV RX3 50 RX3 yX3_in wsX3_in) := goodIn_app (goodIn_of _ (by decide +kernel)) ggX3_print_X3_in
set_option maxRecDepth 20000 in
theorem ggX3_print_X3_holds : GoodIn wsX3_print wsX3_holds := goodIn_r _ [23, 24, 30, 31, 32, 33, 34, 35, 36, 37, 38, 39, 40, 41, 42, 43, 44, 45, 46] (by decide +kernel) (by decide +kernel)
set_option maxRecDepth 20000 in
theorem gX3_print_X3_holds : GoodIn wsX3_print (wsV RX3 57 RX3 yX3_holds wsX3_holds) := goodIn_app (goodIn_of _ (by decide +kernel)) ggX3_print_X3_holds
set_option maxRecDepth 20000 in
theorem ggX3_print_X3_voids : GoodIn wsX3_print wsX3_voids := goodIn_r _ [28, 29, 3, 30, 31, 32, 33, 34, 35, 36, 37, 38, 39, 40, 41, 42, 43, 44, 45, 46] (by decide +kernel) (by decide +kernel)
set_option maxRecDepth 20000 in
theorem gX3_print_X3_voids : GoodIn wsX3_print (wsV RX3 77 RX3 yX3_voids wsX3_voids) := goodIn_app (goodIn_of _ (by decide +kernel)) ggX3_print_X3_voids
theorem dX3_print_0 : decode cX3_print 0 = .ok (.aload_n 0, 1) := by decide +kernel
theorem dX3_print_1 : decode cX3_print 1 = .ok (.iload_n 1, 1) := by decide +kernel
theorem dX3_print_2 : decode cX3_print 2 = .ok (.invokevirtual 71, 3) := by decide +kernel
theorem dX3_print_5 : decode cX3_print 5 = .ok (.istore_n 3, 1) := by decide +kernel
theorem dX3_print_6 : decode cX3_print 6 = .ok (.iload_n 3, 1) := by decide +kernel
theorem dX3_print_7 : decode cX3_print 7 = .ok (.ifCond .eq 31, 3) := by decide +kernel
theorem dX3_print_10 : decode cX3_print 10 = .ok (.aload_n 0, 1) := by decide +kernel
theorem dX3_print_11 : decode cX3_print 11 = .ok (.getfield 34, 3) := by decide +kernel
theorem dX3_print_14 : decode cX3_print 14 = .ok (.iload_n 1, 1) := by decide +kernel
theorem dX3_print_15 : decode cX3_print 15 = .ok (.iaload, 1) := by decide +kernel
theorem dX3_print_16 : decode cX3_print 16 = .ok (.aload_n 0, 1) := by decide +kernel
theorem dX3_print_17 : decode cX3_print 17 = .ok (.aload_n 0, 1) := by decide +kernel
theorem dX3_print_18 : decode cX3_print 18 = .ok (.getfield 25, 3) := by decide +kernel
theorem dX3_print_21 : decode cX3_print 21 = .ok (.iload_n 1, 1) := by decide +kernel
theorem dX3_print_22 : decode cX3_print 22 = .ok (.iaload, 1) := by decide +kernel
theorem dX3_print_23 : decode cX3_print 23 = .ok (.invokevirtual 74, 3) := by decide +kernel
theorem dX3_print_26 : decode cX3_print 26 = .ok (.if_icmp .ne 12, 3) := by decide +kernel
theorem dX3_print_29 : decode cX3_print 29 = .ok (.aload_n 0, 1) := by decide +kernel
theorem dX3_print_30 : decode cX3_print 30 = .ok (.getfield 31, 3) := by decide +kernel
theorem dX3_print_33 : decode cX3_print 33 = .ok (.iload_n 1, 1) := by decide +kernel
theorem dX3_print_34 : decode cX3_print 34 = .ok (.iaload, 1) := by decide +kernel
theorem dX3_print_35 : decode cX3_print 35 = .ok (.goto 4, 3) := by decide +kernel
theorem dX3_print_38 : decode cX3_print 38 = .ok (.iconst 0, 1) := by decide +kernel
theorem dX3_print_39 : decode cX3_print 39 = .ok (.istore 4, 2) := by decide +kernel
theorem dX3_print_41 : decode cX3_print 41 = .ok (.aload_n 0, 1) := by decide +kernel
theorem dX3_print_42 : decode cX3_print 42 = .ok (.iload_n 3, 1) := by decide +kernel
theorem dX3_print_43 : decode cX3_print 43 = .ok (.ifCond .ne 7, 3) := by decide +kernel
theorem dX3_print_46 : decode cX3_print 46 = .ok (.iconst 1, 1) := by decide +kernel
theorem dX3_print_47 : decode cX3_print 47 = .ok (.goto 43, 3) := by decide +kernel
theorem dX3_print_50 : decode cX3_print 50 = .ok (.aload_n 0, 1) := by decide +kernel
theorem dX3_print_51 : decode cX3_print 51 = .ok (.iload_n 2, 1) := by decide +kernel
theorem dX3_print_52 : decode cX3_print 52 = .ok (.iconst 1, 1) := by decide +kernel
theorem dX3_print_53 : decode cX3_print 53 = .ok (.sipush 1000, 3) := by decide +kernel
theorem dX3_print_56 : decode cX3_print 56 = .ok (.invokevirtual 50, 3) := by decide +kernel
theorem dX3_print_59 : decode cX3_print 59 = .ok (.ifCond .ne 7, 3) := by decide +kernel
theorem dX3_print_62 : decode cX3_print 62 = .ok (.iconst 2, 1) := by decide +kernel
theorem dX3_print_63 : decode cX3_print 63 = .ok (.goto 27, 3) := by decide +kernel
theorem dX3_print_66 : decode cX3_print 66 = .ok (.aload_n 0, 1) := by decide +kernel
theorem dX3_print_67 : decode cX3_print 67 = .ok (.getfield 16, 3) := by decide +kernel
theorem dX3_print_70 : decode cX3_print 70 = .ok (.iload_n 1, 1) := by decide +kernel
theorem dX3_print_71 : decode cX3_print 71 = .ok (.iaload, 1) := by decide +kernel
theorem dX3_print_72 : decode cX3_print 72 = .ok (.ifCond .eq 13, 3) := by decide +kernel
theorem dX3_print_75 : decode cX3_print 75 = .ok (.iload 4, 2) := by decide +kernel
theorem dX3_print_77 : decode cX3_print 77 = .ok (.iload_n 2, 1) := by decide +kernel
theorem dX3_print_78 : decode cX3_print 78 = .ok (.iadd, 1) := by decide +kernel
theorem dX3_print_79 : decode cX3_print 79 = .ok (.sipush 2000, 3) := by decide +kernel
theorem dX3_print_82 : decode cX3_print 82 = .ok (.if_icmp .le 7, 3) := by decide +kernel
theorem dX3_print_85 : decode cX3_print 85 = .ok (.iconst 3, 1) := by decide +kernel
theorem dX3_print_86 : decode cX3_print 86 = .ok (.goto 4, 3) := by decide +kernel
theorem dX3_print_89 : decode cX3_print 89 = .ok (.iconst 0, 1) := by decide +kernel
theorem dX3_print_90 : decode cX3_print 90 = .ok (.invokevirtual 57, 3) := by decide +kernel
theorem dX3_print_93 : decode cX3_print 93 = .ok (.ifCond .eq 5, 3) := by decide +kernel
theorem dX3_print_96 : decode cX3_print 96 = .ok (.iconst (-1), 1) := by decide +kernel
theorem dX3_print_97 : decode cX3_print 97 = .ok (.ireturn, 1) := by decide +kernel
theorem dX3_print_98 : decode cX3_print 98 = .ok (.aload_n 0, 1) := by decide +kernel
theorem dX3_print_99 : decode cX3_print 99 = .ok (.getfield 34, 3) := by decide +kernel
theorem dX3_print_102 : decode cX3_print 102 = .ok (.iload_n 1, 1) := by decide +kernel
theorem dX3_print_103 : decode cX3_print 103 = .ok (.iaload, 1) := by decide +kernel
theorem dX3_print_104 : decode cX3_print 104 = .ok (.aload_n 0, 1) := by decide +kernel
theorem dX3_print_105 : decode cX3_print 105 = .ok (.aload_n 0, 1) := by decide +kernel
theorem dX3_print_106 : decode cX3_print 106 = .ok (.getfield 25, 3) := by decide +kernel
theorem dX3_print_109 : decode cX3_print 109 = .ok (.iload_n 1, 1) := by decide +kernel
theorem dX3_print_110 : decode cX3_print 110 = .ok (.iaload, 1) := by decide +kernel
theorem dX3_print_111 : decode cX3_print 111 = .ok (.invokevirtual 74, 3) := by decide +kernel
theorem dX3_print_114 : decode cX3_print 114 = .ok (.if_icmp .eq 8, 3) := by decide +kernel
theorem dX3_print_117 : decode cX3_print 117 = .ok (.aload_n 0, 1) := by decide +kernel
theorem dX3_print_118 : decode cX3_print 118 = .ok (.iload_n 1, 1) := by decide +kernel
theorem dX3_print_119 : decode cX3_print 119 = .ok (.invokevirtual 77, 3) := by decide +kernel
theorem dX3_print_122 : decode cX3_print 122 = .ok (.aload_n 0, 1) := by decide +kernel
theorem dX3_print_123 : decode cX3_print 123 = .ok (.getfield 31, 3) := by decide +kernel
theorem dX3_print_126 : decode cX3_print 126 = .ok (.iload_n 1, 1) := by decide +kernel
theorem dX3_print_127 : decode cX3_print 127 = .ok (.dup2, 1) := by decide +kernel
theorem dX3_print_128 : decode cX3_print 128 = .ok (.iaload, 1) := by decide +kernel
theorem dX3_print_129 : decode cX3_print 129 = .ok (.iload_n 2, 1) := by decide +kernel
theorem dX3_print_130 : decode cX3_print 130 = .ok (.iadd, 1) := by decide +kernel
theorem dX3_print_131 : decode cX3_print 131 = .ok (.iastore, 1) := by decide +kernel
theorem dX3_print_132 : decode cX3_print 132 = .ok (.aload_n 0, 1) := by decide +kernel
theorem dX3_print_133 : decode cX3_print 133 = .ok (.getfield 34, 3) := by decide +kernel
theorem dX3_print_136 : decode cX3_print 136 = .ok (.iload_n 1, 1) := by decide +kernel
theorem dX3_print_137 : decode cX3_print 137 = .ok (.aload_n 0, 1) := by decide +kernel
theorem dX3_print_138 : decode cX3_print 138 = .ok (.aload_n 0, 1) := by decide +kernel
theorem dX3_print_139 : decode cX3_print 139 = .ok (.getfield 25, 3) := by decide +kernel
theorem dX3_print_142 : decode cX3_print 142 = .ok (.iload_n 1, 1) := by decide +kernel
theorem dX3_print_143 : decode cX3_print 143 = .ok (.iaload, 1) := by decide +kernel
theorem dX3_print_144 : decode cX3_print 144 = .ok (.invokevirtual 74, 3) := by decide +kernel
theorem dX3_print_147 : decode cX3_print 147 = .ok (.iastore, 1) := by decide +kernel
theorem dX3_print_148 : decode cX3_print 148 = .ok (.aload_n 0, 1) := by decide +kernel
theorem dX3_print_149 : decode cX3_print 149 = .ok (.getfield 40, 3) := by decide +kernel
theorem dX3_print_152 : decode cX3_print 152 = .ok (.iload_n 1, 1) := by decide +kernel
theorem dX3_print_153 : decode cX3_print 153 = .ok (.aload_n 0, 1) := by decide +kernel
theorem dX3_print_154 : decode cX3_print 154 = .ok (.getfield 25, 3) := by decide +kernel
theorem dX3_print_157 : decode cX3_print 157 = .ok (.iload_n 1, 1) := by decide +kernel
theorem dX3_print_158 : decode cX3_print 158 = .ok (.iaload, 1) := by decide +kernel
theorem dX3_print_159 : decode cX3_print 159 = .ok (.iastore, 1) := by decide +kernel
theorem dX3_print_160 : decode cX3_print 160 = .ok (.aload_n 0, 1) := by decide +kernel
theorem dX3_print_161 : decode cX3_print 161 = .ok (.getfield 31, 3) := by decide +kernel
theorem dX3_print_164 : decode cX3_print 164 = .ok (.iload_n 1, 1) := by decide +kernel
theorem dX3_print_165 : decode cX3_print 165 = .ok (.iaload, 1) := by decide +kernel
theorem dX3_print_166 : decode cX3_print 166 = .ok (.ireturn, 1) := by decide +kernel
set_option maxRecDepth 20000 in
theorem ggX3_signOf_X3_classOf : GoodIn wsX3_signOf wsX3_classOf := goodIn_r _ [7] (by decide +kernel) (by decide +kernel)
set_option maxRecDepth 20000 in
theorem gX3_signOf_X3_classOf : GoodIn wsX3_signOf (wsV RX3 74 RX3 yX3_classOf wsX3_classOf) := goodIn_app (goodIn_of _ (by decide +kernel)) ggX3_signOf_X3_classOf
set_option maxRecDepth 20000 in
theorem ggX3_signOf_X3_letters : GoodIn wsX3_signOf wsX3_letters := goodIn_r _ [11] (by decide +kernel) (by decide +kernel)
set_option maxRecDepth 20000 in
theorem gX3_signOf_X3_letters : GoodIn wsX3_signOf (wsV RX3 81 RX3 yX3_letters wsX3_letters) := goodIn_app (goodIn_of _ (by decide +kernel)) ggX3_signOf_X3_letters
theorem dX3_signOf_0 : decode cX3_signOf 0 = .ok (.aload_n 0, 1) := by decide +kernel
theorem dX3_signOf_1 : decode cX3_signOf 1 = .ok (.aload_n 0, 1) := by decide +kernel
theorem dX3_signOf_2 : decode cX3_signOf 2 = .ok (.getfield 40, 3) := by decide +kernel
theorem dX3_signOf_5 : decode cX3_signOf 5 = .ok (.iload_n 1, 1) := by decide +kernel
theorem dX3_signOf_6 : decode cX3_signOf 6 = .ok (.iaload, 1) := by decide +kernel
theorem dX3_signOf_7 : decode cX3_signOf 7 = .ok (.invokevirtual 74, 3) := by decide +kernel
theorem dX3_signOf_10 : decode cX3_signOf 10 = .ok (.iconst 1, 1) := by decide +kernel
theorem dX3_signOf_11 : decode cX3_signOf 11 = .ok (.if_icmp .le 8, 3) := by decide +kernel
theorem dX3_signOf_14 : decode cX3_signOf 14 = .ok (.bipush 7, 2) := by decide +kernel
theorem dX3_signOf_16 : decode cX3_signOf 16 = .ok (.goto 4, 3) := by decide +kernel
theorem dX3_signOf_19 : decode cX3_signOf 19 = .ok (.iconst 0, 1) := by decide +kernel
theorem dX3_signOf_20 : decode cX3_signOf 20 = .ok (.istore_n 3, 1) := by decide +kernel
theorem dX3_signOf_21 : decode cX3_signOf 21 = .ok (.iload_n 2, 1) := by decide +kernel
theorem dX3_signOf_22 : decode cX3_signOf 22 = .ok (.iload_n 3, 1) := by decide +kernel
theorem dX3_signOf_23 : decode cX3_signOf 23 = .ok (.if_icmp .ge 23, 3) := by decide +kernel
theorem dX3_signOf_26 : decode cX3_signOf 26 = .ok (.aload_n 0, 1) := by decide +kernel
theorem dX3_signOf_27 : decode cX3_signOf 27 = .ok (.iload_n 2, 1) := by decide +kernel
theorem dX3_signOf_28 : decode cX3_signOf 28 = .ok (.bipush 83, 2) := by decide +kernel
theorem dX3_signOf_30 : decode cX3_signOf 30 = .ok (.bipush 84, 2) := by decide +kernel
theorem dX3_signOf_32 : decode cX3_signOf 32 = .ok (.bipush 82, 2) := by decide +kernel
theorem dX3_signOf_34 : decode cX3_signOf 34 = .ok (.bipush 79, 2) := by decide +kernel
theorem dX3_signOf_36 : decode cX3_signOf 36 = .ok (.bipush 78, 2) := by decide +kernel
theorem dX3_signOf_38 : decode cX3_signOf 38 = .ok (.bipush 71, 2) := by decide +kernel
theorem dX3_signOf_40 : decode cX3_signOf 40 = .ok (.bipush 32, 2) := by decide +kernel
theorem dX3_signOf_42 : decode cX3_signOf 42 = .ok (.invokevirtual 81, 3) := by decide +kernel
theorem dX3_signOf_45 : decode cX3_signOf 45 = .ok (.ireturn, 1) := by decide +kernel
theorem dX3_signOf_46 : decode cX3_signOf 46 = .ok (.iload_n 2, 1) := by decide +kernel
theorem dX3_signOf_47 : decode cX3_signOf 47 = .ok (.iload_n 3, 1) := by decide +kernel
theorem dX3_signOf_48 : decode cX3_signOf 48 = .ok (.isub, 1) := by decide +kernel
theorem dX3_signOf_49 : decode cX3_signOf 49 = .ok (.istore 4, 2) := by decide +kernel
theorem dX3_signOf_51 : decode cX3_signOf 51 = .ok (.iload 4, 2) := by decide +kernel
theorem dX3_signOf_53 : decode cX3_signOf 53 = .ok (.iconst 4, 1) := by decide +kernel
theorem dX3_signOf_54 : decode cX3_signOf 54 = .ok (.if_icmp .ge 24, 3) := by decide +kernel
theorem dX3_signOf_57 : decode cX3_signOf 57 = .ok (.aload_n 0, 1) := by decide +kernel
theorem dX3_signOf_58 : decode cX3_signOf 58 = .ok (.iload 4, 2) := by decide +kernel
theorem dX3_signOf_60 : decode cX3_signOf 60 = .ok (.bipush 65, 2) := by decide +kernel
theorem dX3_signOf_62 : decode cX3_signOf 62 = .ok (.bipush 76, 2) := by decide +kernel
theorem dX3_signOf_64 : decode cX3_signOf 64 = .ok (.bipush 69, 2) := by decide +kernel
theorem dX3_signOf_66 : decode cX3_signOf 66 = .ok (.bipush 32, 2) := by decide +kernel
theorem dX3_signOf_68 : decode cX3_signOf 68 = .ok (.bipush 32, 2) := by decide +kernel
theorem dX3_signOf_70 : decode cX3_signOf 70 = .ok (.bipush 32, 2) := by decide +kernel
theorem dX3_signOf_72 : decode cX3_signOf 72 = .ok (.bipush 32, 2) := by decide +kernel
theorem dX3_signOf_74 : decode cX3_signOf 74 = .ok (.invokevirtual 81, 3) := by decide +kernel
theorem dX3_signOf_77 : decode cX3_signOf 77 = .ok (.ireturn, 1) := by decide +kernel
theorem dX3_signOf_78 : decode cX3_signOf 78 = .ok (.aload_n 0, 1) := by decide +kernel
theorem dX3_signOf_79 : decode cX3_signOf 79 = .ok (.getfield 40, 3) := by decide +kernel
theorem dX3_signOf_82 : decode cX3_signOf 82 = .ok (.iload_n 1, 1) := by decide +kernel
theorem dX3_signOf_83 : decode cX3_signOf 83 = .ok (.iaload, 1) := by decide +kernel
theorem dX3_signOf_84 : decode cX3_signOf 84 = .ok (.bipush 100, 2) := by decide +kernel
theorem dX3_signOf_86 : decode cX3_signOf 86 = .ok (.if_icmp .ge 7, 3) := by decide +kernel
theorem dX3_signOf_89 : decode cX3_signOf 89 = .ok (.iconst 1, 1) := by decide +kernel
theorem dX3_signOf_90 : decode cX3_signOf 90 = .ok (.goto 4, 3) := by decide +kernel
theorem dX3_signOf_93 : decode cX3_signOf 93 = .ok (.iconst 2, 1) := by decide +kernel
theorem dX3_signOf_94 : decode cX3_signOf 94 = .ok (.istore 5, 2) := by decide +kernel
theorem dX3_signOf_96 : decode cX3_signOf 96 = .ok (.iinc 4 (-4), 3) := by decide +kernel
theorem dX3_signOf_99 : decode cX3_signOf 99 = .ok (.iload 4, 2) := by decide +kernel
theorem dX3_signOf_101 : decode cX3_signOf 101 = .ok (.iload 5, 2) := by decide +kernel
theorem dX3_signOf_103 : decode cX3_signOf 103 = .ok (.if_icmp .ge 43, 3) := by decide +kernel
theorem dX3_signOf_106 : decode cX3_signOf 106 = .ok (.aload_n 0, 1) := by decide +kernel
theorem dX3_signOf_107 : decode cX3_signOf 107 = .ok (.getfield 40, 3) := by decide +kernel
theorem dX3_signOf_110 : decode cX3_signOf 110 = .ok (.iload_n 1, 1) := by decide +kernel
theorem dX3_signOf_111 : decode cX3_signOf 111 = .ok (.iaload, 1) := by decide +kernel
theorem dX3_signOf_112 : decode cX3_signOf 112 = .ok (.bipush 10, 2) := by decide +kernel
theorem dX3_signOf_114 : decode cX3_signOf 114 = .ok (.idiv, 1) := by decide +kernel
theorem dX3_signOf_115 : decode cX3_signOf 115 = .ok (.istore 6, 2) := by decide +kernel
theorem dX3_signOf_117 : decode cX3_signOf 117 = .ok (.bipush 48, 2) := by decide +kernel
theorem dX3_signOf_119 : decode cX3_signOf 119 = .ok (.iload 5, 2) := by decide +kernel
theorem dX3_signOf_121 : decode cX3_signOf 121 = .ok (.iconst 2, 1) := by decide +kernel
theorem dX3_signOf_122 : decode cX3_signOf 122 = .ok (.if_icmp .ne 16, 3) := by decide +kernel
theorem dX3_signOf_125 : decode cX3_signOf 125 = .ok (.iload 4, 2) := by decide +kernel
theorem dX3_signOf_127 : decode cX3_signOf 127 = .ok (.ifCond .ne 11, 3) := by decide +kernel
theorem dX3_signOf_130 : decode cX3_signOf 130 = .ok (.iload 6, 2) := by decide +kernel
theorem dX3_signOf_132 : decode cX3_signOf 132 = .ok (.bipush 10, 2) := by decide +kernel
theorem dX3_signOf_134 : decode cX3_signOf 134 = .ok (.idiv, 1) := by decide +kernel
theorem dX3_signOf_135 : decode cX3_signOf 135 = .ok (.goto 8, 3) := by decide +kernel
theorem dX3_signOf_138 : decode cX3_signOf 138 = .ok (.iload 6, 2) := by decide +kernel
theorem dX3_signOf_140 : decode cX3_signOf 140 = .ok (.bipush 10, 2) := by decide +kernel
theorem dX3_signOf_142 : decode cX3_signOf 142 = .ok (.irem, 1) := by decide +kernel
theorem dX3_signOf_143 : decode cX3_signOf 143 = .ok (.iadd, 1) := by decide +kernel
theorem dX3_signOf_144 : decode cX3_signOf 144 = .ok (.i2c, 1) := by decide +kernel
theorem dX3_signOf_145 : decode cX3_signOf 145 = .ok (.ireturn, 1) := by decide +kernel
theorem dX3_signOf_146 : decode cX3_signOf 146 = .ok (.iload 4, 2) := by decide +kernel
theorem dX3_signOf_148 : decode cX3_signOf 148 = .ok (.iload 5, 2) := by decide +kernel
theorem dX3_signOf_150 : decode cX3_signOf 150 = .ok (.isub, 1) := by decide +kernel
theorem dX3_signOf_151 : decode cX3_signOf 151 = .ok (.istore 4, 2) := by decide +kernel
theorem dX3_signOf_153 : decode cX3_signOf 153 = .ok (.iload 4, 2) := by decide +kernel
theorem dX3_signOf_155 : decode cX3_signOf 155 = .ok (.iconst 3, 1) := by decide +kernel
theorem dX3_signOf_156 : decode cX3_signOf 156 = .ok (.if_icmp .ge 38, 3) := by decide +kernel
theorem dX3_signOf_159 : decode cX3_signOf 159 = .ok (.iload 4, 2) := by decide +kernel
theorem dX3_signOf_161 : decode cX3_signOf 161 = .ok (.ifCond .ne 8, 3) := by decide +kernel
theorem dX3_signOf_164 : decode cX3_signOf 164 = .ok (.bipush 46, 2) := by decide +kernel
theorem dX3_signOf_166 : decode cX3_signOf 166 = .ok (.goto 27, 3) := by decide +kernel
theorem dX3_signOf_169 : decode cX3_signOf 169 = .ok (.iload 4, 2) := by decide +kernel
theorem dX3_signOf_171 : decode cX3_signOf 171 = .ok (.iconst 1, 1) := by decide +kernel
theorem dX3_signOf_172 : decode cX3_signOf 172 = .ok (.if_icmp .ne 19, 3) := by decide +kernel
theorem dX3_signOf_175 : decode cX3_signOf 175 = .ok (.bipush 48, 2) := by decide +kernel
theorem dX3_signOf_177 : decode cX3_signOf 177 = .ok (.aload_n 0, 1) := by decide +kernel
theorem dX3_signOf_178 : decode cX3_signOf 178 = .ok (.getfield 40, 3) := by decide +kernel
theorem dX3_signOf_181 : decode cX3_signOf 181 = .ok (.iload_n 1, 1) := by decide +kernel
theorem dX3_signOf_182 : decode cX3_signOf 182 = .ok (.iaload, 1) := by decide +kernel
theorem dX3_signOf_183 : decode cX3_signOf 183 = .ok (.bipush 10, 2) := by decide +kernel
theorem dX3_signOf_185 : decode cX3_signOf 185 = .ok (.irem, 1) := by decide +kernel
theorem dX3_signOf_186 : decode cX3_signOf 186 = .ok (.iadd, 1) := by decide +kernel
theorem dX3_signOf_187 : decode cX3_signOf 187 = .ok (.i2c, 1) := by decide +kernel
theorem dX3_signOf_188 : decode cX3_signOf 188 = .ok (.goto 5, 3) := by decide +kernel
theorem dX3_signOf_191 : decode cX3_signOf 191 = .ok (.bipush 37, 2) := by decide +kernel
theorem dX3_signOf_193 : decode cX3_signOf 193 = .ok (.ireturn, 1) := by decide +kernel
theorem dX3_signOf_194 : decode cX3_signOf 194 = .ok (.iinc 4 (-3), 3) := by decide +kernel
theorem dX3_signOf_197 : decode cX3_signOf 197 = .ok (.iload 4, 2) := by decide +kernel
theorem dX3_signOf_199 : decode cX3_signOf 199 = .ok (.bipush 9, 2) := by decide +kernel
theorem dX3_signOf_201 : decode cX3_signOf 201 = .ok (.if_icmp .ge 55, 3) := by decide +kernel
theorem dX3_signOf_204 : decode cX3_signOf 204 = .ok (.iload 4, 2) := by decide +kernel
theorem dX3_signOf_206 : decode cX3_signOf 206 = .ok (.iconst 4, 1) := by decide +kernel
theorem dX3_signOf_207 : decode cX3_signOf 207 = .ok (.if_icmp .ge 26, 3) := by decide +kernel
theorem dX3_signOf_210 : decode cX3_signOf 210 = .ok (.aload_n 0, 1) := by decide +kernel
theorem dX3_signOf_211 : decode cX3_signOf 211 = .ok (.iload 4, 2) := by decide +kernel
theorem dX3_signOf_213 : decode cX3_signOf 213 = .ok (.bipush 32, 2) := by decide +kernel
theorem dX3_signOf_215 : decode cX3_signOf 215 = .ok (.bipush 79, 2) := by decide +kernel
theorem dX3_signOf_217 : decode cX3_signOf 217 = .ok (.bipush 70, 2) := by decide +kernel
theorem dX3_signOf_219 : decode cX3_signOf 219 = .ok (.bipush 32, 2) := by decide +kernel
theorem dX3_signOf_221 : decode cX3_signOf 221 = .ok (.bipush 32, 2) := by decide +kernel
theorem dX3_signOf_223 : decode cX3_signOf 223 = .ok (.bipush 32, 2) := by decide +kernel
theorem dX3_signOf_225 : decode cX3_signOf 225 = .ok (.bipush 32, 2) := by decide +kernel
theorem dX3_signOf_227 : decode cX3_signOf 227 = .ok (.invokevirtual 81, 3) := by decide +kernel
theorem dX3_signOf_230 : decode cX3_signOf 230 = .ok (.goto 25, 3) := by decide +kernel
theorem dX3_signOf_233 : decode cX3_signOf 233 = .ok (.aload_n 0, 1) := by decide +kernel
theorem dX3_signOf_234 : decode cX3_signOf 234 = .ok (.iload 4, 2) := by decide +kernel
theorem dX3_signOf_236 : decode cX3_signOf 236 = .ok (.iconst 4, 1) := by decide +kernel
theorem dX3_signOf_237 : decode cX3_signOf 237 = .ok (.isub, 1) := by decide +kernel
theorem dX3_signOf_238 : decode cX3_signOf 238 = .ok (.bipush 84, 2) := by decide +kernel
theorem dX3_signOf_240 : decode cX3_signOf 240 = .ok (.bipush 65, 2) := by decide +kernel
theorem dX3_signOf_242 : decode cX3_signOf 242 = .ok (.bipush 78, 2) := by decide +kernel
theorem dX3_signOf_244 : decode cX3_signOf 244 = .ok (.bipush 75, 2) := by decide +kernel
theorem dX3_signOf_246 : decode cX3_signOf 246 = .ok (.bipush 32, 2) := by decide +kernel
theorem dX3_signOf_248 : decode cX3_signOf 248 = .ok (.bipush 32, 2) := by decide +kernel
theorem dX3_signOf_250 : decode cX3_signOf 250 = .ok (.bipush 32, 2) := by decide +kernel
theorem dX3_signOf_252 : decode cX3_signOf 252 = .ok (.invokevirtual 81, 3) := by decide +kernel
theorem dX3_signOf_255 : decode cX3_signOf 255 = .ok (.ireturn, 1) := by decide +kernel
theorem dX3_signOf_256 : decode cX3_signOf 256 = .ok (.iload 4, 2) := by decide +kernel
theorem dX3_signOf_258 : decode cX3_signOf 258 = .ok (.bipush 9, 2) := by decide +kernel
theorem dX3_signOf_260 : decode cX3_signOf 260 = .ok (.if_icmp .ne 16, 3) := by decide +kernel
theorem dX3_signOf_263 : decode cX3_signOf 263 = .ok (.bipush 48, 2) := by decide +kernel
theorem dX3_signOf_265 : decode cX3_signOf 265 = .ok (.aload_n 0, 1) := by decide +kernel
theorem dX3_signOf_266 : decode cX3_signOf 266 = .ok (.getfield 13, 3) := by decide +kernel
theorem dX3_signOf_269 : decode cX3_signOf 269 = .ok (.iload_n 1, 1) := by decide +kernel
theorem dX3_signOf_270 : decode cX3_signOf 270 = .ok (.iaload, 1) := by decide +kernel
theorem dX3_signOf_271 : decode cX3_signOf 271 = .ok (.iadd, 1) := by decide +kernel
theorem dX3_signOf_272 : decode cX3_signOf 272 = .ok (.i2c, 1) := by decide +kernel
theorem dX3_signOf_273 : decode cX3_signOf 273 = .ok (.goto 4, 3) := by decide +kernel
theorem dX3_signOf_276 : decode cX3_signOf 276 = .ok (.iconst 0, 1) := by decide +kernel
theorem dX3_signOf_277 : decode cX3_signOf 277 = .ok (.ireturn, 1) := by decide +kernel
theorem dX3_letters_0 : decode cX3_letters 0 = .ok (.iload_n 1, 1) := by decide +kernel
theorem dX3_letters_1 : decode cX3_letters 1 = .ok (.ifCond .ne 7, 3) := by decide +kernel
theorem dX3_letters_4 : decode cX3_letters 4 = .ok (.iload_n 2, 1) := by decide +kernel
theorem dX3_letters_5 : decode cX3_letters 5 = .ok (.goto 54, 3) := by decide +kernel
theorem dX3_letters_8 : decode cX3_letters 8 = .ok (.iload_n 1, 1) := by decide +kernel
theorem dX3_letters_9 : decode cX3_letters 9 = .ok (.iconst 1, 1) := by decide +kernel
theorem dX3_letters_10 : decode cX3_letters 10 = .ok (.if_icmp .ne 7, 3) := by decide +kernel
theorem dX3_letters_13 : decode cX3_letters 13 = .ok (.iload_n 3, 1) := by decide +kernel
theorem dX3_letters_14 : decode cX3_letters 14 = .ok (.goto 45, 3) := by decide +kernel
theorem dX3_letters_17 : decode cX3_letters 17 = .ok (.iload_n 1, 1) := by decide +kernel
theorem dX3_letters_18 : decode cX3_letters 18 = .ok (.iconst 2, 1) := by decide +kernel
theorem dX3_letters_19 : decode cX3_letters 19 = .ok (.if_icmp .ne 8, 3) := by decide +kernel
theorem dX3_letters_22 : decode cX3_letters 22 = .ok (.iload 4, 2) := by decide +kernel
theorem dX3_letters_24 : decode cX3_letters 24 = .ok (.goto 35, 3) := by decide +kernel
theorem dX3_letters_27 : decode cX3_letters 27 = .ok (.iload_n 1, 1) := by decide +kernel
theorem dX3_letters_28 : decode cX3_letters 28 = .ok (.iconst 3, 1) := by decide +kernel
theorem dX3_letters_29 : decode cX3_letters 29 = .ok (.if_icmp .ne 8, 3) := by decide +kernel
theorem dX3_letters_32 : decode cX3_letters 32 = .ok (.iload 5, 2) := by decide +kernel
theorem dX3_letters_34 : decode cX3_letters 34 = .ok (.goto 25, 3) := by decide +kernel
theorem dX3_letters_37 : decode cX3_letters 37 = .ok (.iload_n 1, 1) := by decide +kernel
theorem dX3_letters_38 : decode cX3_letters 38 = .ok (.iconst 4, 1) := by decide +kernel
theorem dX3_letters_39 : decode cX3_letters 39 = .ok (.if_icmp .ne 8, 3) := by decide +kernel
theorem dX3_letters_42 : decode cX3_letters 42 = .ok (.iload 6, 2) := by decide +kernel
theorem dX3_letters_44 : decode cX3_letters 44 = .ok (.goto 15, 3) := by decide +kernel
theorem dX3_letters_47 : decode cX3_letters 47 = .ok (.iload_n 1, 1) := by decide +kernel
theorem dX3_letters_48 : decode cX3_letters 48 = .ok (.iconst 5, 1) := by decide +kernel
theorem dX3_letters_49 : decode cX3_letters 49 = .ok (.if_icmp .ne 8, 3) := by decide +kernel
theorem dX3_letters_52 : decode cX3_letters 52 = .ok (.iload 7, 2) := by decide +kernel
theorem dX3_letters_54 : decode cX3_letters 54 = .ok (.goto 5, 3) := by decide +kernel
theorem dX3_letters_57 : decode cX3_letters 57 = .ok (.iload 8, 2) := by decide +kernel
theorem dX3_letters_59 : decode cX3_letters 59 = .ok (.ireturn, 1) := by decide +kernel
set_option maxRecDepth 20000 in
theorem ggX3_label_X3_isBrew : GoodIn wsX3_label wsX3_isBrew := goodIn_r _ [6, 7, 8, 9, 10, 5, 11, 30, 31, 32, 33, 34, 35, 36, 37, 38, 39, 40, 41, 42, 43, 44, 45, 46] (by decide +kernel) (by decide +kernel)
set_option maxRecDepth 20000 in
theorem gX3_label_X3_isBrew : GoodIn wsX3_label (wsV RX3 71 RX3 yX3_isBrew wsX3_isBrew) := goodIn_app (goodIn_of _ (by decide +kernel)) ggX3_label_X3_isBrew
set_option maxRecDepth 20000 in
theorem ggX3_label_X3_holds : GoodIn wsX3_label wsX3_holds := goodIn_r _ [15, 16, 30, 31, 32, 33, 34, 35, 36, 37, 38, 39, 40, 41, 42, 43, 44, 45, 46] (by decide +kernel) (by decide +kernel)
set_option maxRecDepth 20000 in
theorem gX3_label_X3_holds : GoodIn wsX3_label (wsV RX3 57 RX3 yX3_holds wsX3_holds) := goodIn_app (goodIn_of _ (by decide +kernel)) ggX3_label_X3_holds
set_option maxRecDepth 20000 in
theorem ggX3_label_X3_signOf : GoodIn wsX3_label wsX3_signOf := goodIn_r _ [20, 1, 21, 22, 23, 24, 5, 25, 26, 27, 28, 29, 30, 31, 32, 33, 34, 35, 36, 37, 38, 39, 40, 41, 42, 43, 44, 45, 46] (by decide +kernel) (by decide +kernel)
set_option maxRecDepth 20000 in
theorem gX3_label_X3_signOf : GoodIn wsX3_label (wsV RX3 85 RX3 yX3_signOf wsX3_signOf) := goodIn_app (goodIn_of _ (by decide +kernel)) ggX3_label_X3_signOf
theorem dX3_label_0 : decode cX3_label 0 = .ok (.aload_n 0, 1) := by decide +kernel
theorem dX3_label_1 : decode cX3_label 1 = .ok (.aload_n 0, 1) := by decide +kernel
theorem dX3_label_2 : decode cX3_label 2 = .ok (.iload_n 1, 1) := by decide +kernel
theorem dX3_label_3 : decode cX3_label 3 = .ok (.invokevirtual 71, 3) := by decide +kernel
theorem dX3_label_6 : decode cX3_label 6 = .ok (.ifCond .eq 11, 3) := by decide +kernel
theorem dX3_label_9 : decode cX3_label 9 = .ok (.iload_n 2, 1) := by decide +kernel
theorem dX3_label_10 : decode cX3_label 10 = .ok (.ifCond .lt 7, 3) := by decide +kernel
theorem dX3_label_13 : decode cX3_label 13 = .ok (.iconst 0, 1) := by decide +kernel
theorem dX3_label_14 : decode cX3_label 14 = .ok (.goto 4, 3) := by decide +kernel
theorem dX3_label_17 : decode cX3_label 17 = .ok (.iconst 1, 1) := by decide +kernel
theorem dX3_label_18 : decode cX3_label 18 = .ok (.invokevirtual 57, 3) := by decide +kernel
theorem dX3_label_21 : decode cX3_label 21 = .ok (.ifCond .eq 5, 3) := by decide +kernel
theorem dX3_label_24 : decode cX3_label 24 = .ok (.iconst 0, 1) := by decide +kernel
theorem dX3_label_25 : decode cX3_label 25 = .ok (.ireturn, 1) := by decide +kernel
theorem dX3_label_26 : decode cX3_label 26 = .ok (.aload_n 0, 1) := by decide +kernel
theorem dX3_label_27 : decode cX3_label 27 = .ok (.getfield 40, 3) := by decide +kernel
theorem dX3_label_30 : decode cX3_label 30 = .ok (.iload_n 1, 1) := by decide +kernel
theorem dX3_label_31 : decode cX3_label 31 = .ok (.iaload, 1) := by decide +kernel
theorem dX3_label_32 : decode cX3_label 32 = .ok (.ifCond .ge 7, 3) := by decide +kernel
theorem dX3_label_35 : decode cX3_label 35 = .ok (.iconst 0, 1) := by decide +kernel
theorem dX3_label_36 : decode cX3_label 36 = .ok (.goto 9, 3) := by decide +kernel
theorem dX3_label_39 : decode cX3_label 39 = .ok (.aload_n 0, 1) := by decide +kernel
theorem dX3_label_40 : decode cX3_label 40 = .ok (.iload_n 1, 1) := by decide +kernel
theorem dX3_label_41 : decode cX3_label 41 = .ok (.iload_n 2, 1) := by decide +kernel
theorem dX3_label_42 : decode cX3_label 42 = .ok (.invokevirtual 85, 3) := by decide +kernel
theorem dX3_label_45 : decode cX3_label 45 = .ok (.ireturn, 1) := by decide +kernel
theorem dX3_empties_0 : decode cX3_empties 0 = .ok (.aload_n 0, 1) := by decide +kernel
theorem dX3_empties_1 : decode cX3_empties 1 = .ok (.getfield 16, 3) := by decide +kernel
theorem dX3_empties_4 : decode cX3_empties 4 = .ok (.iload_n 1, 1) := by decide +kernel
theorem dX3_empties_5 : decode cX3_empties 5 = .ok (.iaload, 1) := by decide +kernel
theorem dX3_empties_6 : decode cX3_empties 6 = .ok (.ifCond .ne 15, 3) := by decide +kernel
theorem dX3_empties_9 : decode cX3_empties 9 = .ok (.aload_n 0, 1) := by decide +kernel
theorem dX3_empties_10 : decode cX3_empties 10 = .ok (.getfield 7, 3) := by decide +kernel
theorem dX3_empties_13 : decode cX3_empties 13 = .ok (.aload_n 0, 1) := by decide +kernel
theorem dX3_empties_14 : decode cX3_empties 14 = .ok (.getfield 13, 3) := by decide +kernel
theorem dX3_empties_17 : decode cX3_empties 17 = .ok (.iload_n 1, 1) := by decide +kernel
theorem dX3_empties_18 : decode cX3_empties 18 = .ok (.iaload, 1) := by decide +kernel
theorem dX3_empties_19 : decode cX3_empties 19 = .ok (.iconst (-1), 1) := by decide +kernel
theorem dX3_empties_20 : decode cX3_empties 20 = .ok (.iastore, 1) := by decide +kernel
theorem dX3_empties_21 : decode cX3_empties 21 = .ok (.return_, 1) := by decide +kernel
set_option maxRecDepth 20000 in
theorem ggX3_bottle_X3_isBrew : GoodIn wsX3_bottle wsX3_isBrew := goodIn_r _ [11, 12, 13, 14, 15, 10, 16, 47, 48, 49, 50, 51, 52, 53, 54, 55, 56, 57, 58, 59, 60, 61, 62, 63] (by decide +kernel) (by decide +kernel)
set_option maxRecDepth 20000 in
theorem gX3_bottle_X3_isBrew : GoodIn wsX3_bottle (wsV RX3 71 RX3 yX3_isBrew wsX3_isBrew) := goodIn_app (goodIn_of _ (by decide +kernel)) ggX3_bottle_X3_isBrew
set_option maxRecDepth 20000 in
theorem ggX3_bottle_X3_isRipe : GoodIn wsX3_bottle wsX3_isRipe := goodIn_r _ [20, 1, 21, 22, 23, 24, 25, 26, 10, 27, 47, 48, 49, 50, 51, 52, 53, 54, 55, 56, 57, 58, 59, 60, 61, 62, 63] (by decide +kernel) (by decide +kernel)
set_option maxRecDepth 20000 in
theorem gX3_bottle_X3_isRipe : GoodIn wsX3_bottle (wsV RX3 89 RX3 yX3_isRipe wsX3_isRipe) := goodIn_app (goodIn_of _ (by decide +kernel)) ggX3_bottle_X3_isRipe
set_option maxRecDepth 20000 in
theorem ggX3_bottle_X3_classOf : GoodIn wsX3_bottle wsX3_classOf := goodIn_r _ [31] (by decide +kernel) (by decide +kernel)
set_option maxRecDepth 20000 in
theorem gX3_bottle_X3_classOf : GoodIn wsX3_bottle (wsV RX3 74 RX3 yX3_classOf wsX3_classOf) := goodIn_app (goodIn_of _ (by decide +kernel)) ggX3_bottle_X3_classOf
set_option maxRecDepth 20000 in
theorem ggX3_bottle_X3_in : GoodIn wsX3_bottle wsX3_in := goodIn_r _ [16] (by decide +kernel) (by decide +kernel)
set_option maxRecDepth 20000 in
theorem gX3_bottle_X3_in : GoodIn wsX3_bottle (wsV RX3 50 RX3 yX3_in wsX3_in) := goodIn_app (goodIn_of _ (by decide +kernel)) ggX3_bottle_X3_in
set_option maxRecDepth 20000 in
theorem ggX3_bottle_X3_holds : GoodIn wsX3_bottle wsX3_holds := goodIn_r _ [35, 36, 47, 48, 49, 50, 51, 52, 53, 54, 55, 56, 57, 58, 59, 60, 61, 62, 63] (by decide +kernel) (by decide +kernel)
set_option maxRecDepth 20000 in
theorem gX3_bottle_X3_holds : GoodIn wsX3_bottle (wsV RX3 57 RX3 yX3_holds wsX3_holds) := goodIn_app (goodIn_of _ (by decide +kernel)) ggX3_bottle_X3_holds
set_option maxRecDepth 20000 in
theorem ggX3_bottle_X3_stamp : GoodIn wsX3_bottle wsX3_stamp := goodIn_r _ [40] (by decide +kernel) (by decide +kernel)
set_option maxRecDepth 20000 in
theorem gX3_bottle_X3_stamp : GoodIn wsX3_bottle (wsV RX3 95 RX3 yX3_stamp wsX3_stamp) := goodIn_app (goodIn_of _ (by decide +kernel)) ggX3_bottle_X3_stamp
set_option maxRecDepth 20000 in
theorem ggX3_bottle_X3_empties : GoodIn wsX3_bottle wsX3_empties := goodIn_r _ [44, 1, 45, 46, 47, 48, 49, 50, 51, 52, 53, 54, 55, 56, 57, 58, 59, 60, 61, 62, 63] (by decide +kernel) (by decide +kernel)
set_option maxRecDepth 20000 in
theorem gX3_bottle_X3_empties : GoodIn wsX3_bottle (wsV RX3 98 RX3 yX3_empties wsX3_empties) := goodIn_app (goodIn_of _ (by decide +kernel)) ggX3_bottle_X3_empties
theorem dX3_bottle_0 : decode cX3_bottle 0 = .ok (.aload_n 0, 1) := by decide +kernel
theorem dX3_bottle_1 : decode cX3_bottle 1 = .ok (.iload_n 1, 1) := by decide +kernel
theorem dX3_bottle_2 : decode cX3_bottle 2 = .ok (.invokevirtual 71, 3) := by decide +kernel
theorem dX3_bottle_5 : decode cX3_bottle 5 = .ok (.istore_n 3, 1) := by decide +kernel
theorem dX3_bottle_6 : decode cX3_bottle 6 = .ok (.iload_n 3, 1) := by decide +kernel
theorem dX3_bottle_7 : decode cX3_bottle 7 = .ok (.ifCond .eq 54, 3) := by decide +kernel
theorem dX3_bottle_10 : decode cX3_bottle 10 = .ok (.aload_n 0, 1) := by decide +kernel
theorem dX3_bottle_11 : decode cX3_bottle 11 = .ok (.iload_n 1, 1) := by decide +kernel
theorem dX3_bottle_12 : decode cX3_bottle 12 = .ok (.invokevirtual 89, 3) := by decide +kernel
theorem dX3_bottle_15 : decode cX3_bottle 15 = .ok (.ifCond .eq 46, 3) := by decide +kernel
theorem dX3_bottle_18 : decode cX3_bottle 18 = .ok (.aload_n 0, 1) := by decide +kernel
theorem dX3_bottle_19 : decode cX3_bottle 19 = .ok (.getfield 16, 3) := by decide +kernel
theorem dX3_bottle_22 : decode cX3_bottle 22 = .ok (.iload_n 1, 1) := by decide +kernel
theorem dX3_bottle_23 : decode cX3_bottle 23 = .ok (.iaload, 1) := by decide +kernel
theorem dX3_bottle_24 : decode cX3_bottle 24 = .ok (.iload_n 2, 1) := by decide +kernel
theorem dX3_bottle_25 : decode cX3_bottle 25 = .ok (.if_icmp .lt 36, 3) := by decide +kernel
theorem dX3_bottle_28 : decode cX3_bottle 28 = .ok (.aload_n 0, 1) := by decide +kernel
theorem dX3_bottle_29 : decode cX3_bottle 29 = .ok (.getfield 31, 3) := by decide +kernel
theorem dX3_bottle_32 : decode cX3_bottle 32 = .ok (.iload_n 1, 1) := by decide +kernel
theorem dX3_bottle_33 : decode cX3_bottle 33 = .ok (.iaload, 1) := by decide +kernel
theorem dX3_bottle_34 : decode cX3_bottle 34 = .ok (.iload_n 2, 1) := by decide +kernel
theorem dX3_bottle_35 : decode cX3_bottle 35 = .ok (.if_icmp .lt 26, 3) := by decide +kernel
theorem dX3_bottle_38 : decode cX3_bottle 38 = .ok (.aload_n 0, 1) := by decide +kernel
theorem dX3_bottle_39 : decode cX3_bottle 39 = .ok (.getfield 34, 3) := by decide +kernel
theorem dX3_bottle_42 : decode cX3_bottle 42 = .ok (.iload_n 1, 1) := by decide +kernel
theorem dX3_bottle_43 : decode cX3_bottle 43 = .ok (.iaload, 1) := by decide +kernel
theorem dX3_bottle_44 : decode cX3_bottle 44 = .ok (.aload_n 0, 1) := by decide +kernel
theorem dX3_bottle_45 : decode cX3_bottle 45 = .ok (.aload_n 0, 1) := by decide +kernel
theorem dX3_bottle_46 : decode cX3_bottle 46 = .ok (.getfield 25, 3) := by decide +kernel
theorem dX3_bottle_49 : decode cX3_bottle 49 = .ok (.iload_n 1, 1) := by decide +kernel
theorem dX3_bottle_50 : decode cX3_bottle 50 = .ok (.iaload, 1) := by decide +kernel
theorem dX3_bottle_51 : decode cX3_bottle 51 = .ok (.invokevirtual 74, 3) := by decide +kernel
theorem dX3_bottle_54 : decode cX3_bottle 54 = .ok (.if_icmp .ne 7, 3) := by decide +kernel
theorem dX3_bottle_57 : decode cX3_bottle 57 = .ok (.iconst 1, 1) := by decide +kernel
theorem dX3_bottle_58 : decode cX3_bottle 58 = .ok (.goto 4, 3) := by decide +kernel
theorem dX3_bottle_61 : decode cX3_bottle 61 = .ok (.iconst 0, 1) := by decide +kernel
theorem dX3_bottle_62 : decode cX3_bottle 62 = .ok (.istore 4, 2) := by decide +kernel
theorem dX3_bottle_64 : decode cX3_bottle 64 = .ok (.aload_n 0, 1) := by decide +kernel
theorem dX3_bottle_65 : decode cX3_bottle 65 = .ok (.iload_n 3, 1) := by decide +kernel
theorem dX3_bottle_66 : decode cX3_bottle 66 = .ok (.ifCond .ne 7, 3) := by decide +kernel
theorem dX3_bottle_69 : decode cX3_bottle 69 = .ok (.iconst 1, 1) := by decide +kernel
theorem dX3_bottle_70 : decode cX3_bottle 70 = .ok (.goto 29, 3) := by decide +kernel
theorem dX3_bottle_73 : decode cX3_bottle 73 = .ok (.aload_n 0, 1) := by decide +kernel
theorem dX3_bottle_74 : decode cX3_bottle 74 = .ok (.iload_n 2, 1) := by decide +kernel
theorem dX3_bottle_75 : decode cX3_bottle 75 = .ok (.iconst 1, 1) := by decide +kernel
theorem dX3_bottle_76 : decode cX3_bottle 76 = .ok (.sipush 1000, 3) := by decide +kernel
theorem dX3_bottle_79 : decode cX3_bottle 79 = .ok (.invokevirtual 50, 3) := by decide +kernel
theorem dX3_bottle_82 : decode cX3_bottle 82 = .ok (.ifCond .ne 7, 3) := by decide +kernel
theorem dX3_bottle_85 : decode cX3_bottle 85 = .ok (.iconst 2, 1) := by decide +kernel
theorem dX3_bottle_86 : decode cX3_bottle 86 = .ok (.goto 13, 3) := by decide +kernel
theorem dX3_bottle_89 : decode cX3_bottle 89 = .ok (.iload 4, 2) := by decide +kernel
theorem dX3_bottle_91 : decode cX3_bottle 91 = .ok (.ifCond .eq 7, 3) := by decide +kernel
theorem dX3_bottle_94 : decode cX3_bottle 94 = .ok (.iconst 0, 1) := by decide +kernel
theorem dX3_bottle_95 : decode cX3_bottle 95 = .ok (.goto 4, 3) := by decide +kernel
theorem dX3_bottle_98 : decode cX3_bottle 98 = .ok (.iconst 3, 1) := by decide +kernel
theorem dX3_bottle_99 : decode cX3_bottle 99 = .ok (.invokevirtual 57, 3) := by decide +kernel
theorem dX3_bottle_102 : decode cX3_bottle 102 = .ok (.ifCond .eq 5, 3) := by decide +kernel
theorem dX3_bottle_105 : decode cX3_bottle 105 = .ok (.iconst (-1), 1) := by decide +kernel
theorem dX3_bottle_106 : decode cX3_bottle 106 = .ok (.ireturn, 1) := by decide +kernel
theorem dX3_bottle_107 : decode cX3_bottle 107 = .ok (.aload_n 0, 1) := by decide +kernel
theorem dX3_bottle_108 : decode cX3_bottle 108 = .ok (.getfield 34, 3) := by decide +kernel
theorem dX3_bottle_111 : decode cX3_bottle 111 = .ok (.iload_n 1, 1) := by decide +kernel
theorem dX3_bottle_112 : decode cX3_bottle 112 = .ok (.iaload, 1) := by decide +kernel
theorem dX3_bottle_113 : decode cX3_bottle 113 = .ok (.istore 5, 2) := by decide +kernel
theorem dX3_bottle_115 : decode cX3_bottle 115 = .ok (.aload_n 0, 1) := by decide +kernel
theorem dX3_bottle_116 : decode cX3_bottle 116 = .ok (.getfield 31, 3) := by decide +kernel
theorem dX3_bottle_119 : decode cX3_bottle 119 = .ok (.iload_n 1, 1) := by decide +kernel
theorem dX3_bottle_120 : decode cX3_bottle 120 = .ok (.dup2, 1) := by decide +kernel
theorem dX3_bottle_121 : decode cX3_bottle 121 = .ok (.iaload, 1) := by decide +kernel
theorem dX3_bottle_122 : decode cX3_bottle 122 = .ok (.iload_n 2, 1) := by decide +kernel
theorem dX3_bottle_123 : decode cX3_bottle 123 = .ok (.isub, 1) := by decide +kernel
theorem dX3_bottle_124 : decode cX3_bottle 124 = .ok (.iastore, 1) := by decide +kernel
theorem dX3_bottle_125 : decode cX3_bottle 125 = .ok (.aload_n 0, 1) := by decide +kernel
theorem dX3_bottle_126 : decode cX3_bottle 126 = .ok (.getfield 16, 3) := by decide +kernel
theorem dX3_bottle_129 : decode cX3_bottle 129 = .ok (.iload_n 1, 1) := by decide +kernel
theorem dX3_bottle_130 : decode cX3_bottle 130 = .ok (.dup2, 1) := by decide +kernel
theorem dX3_bottle_131 : decode cX3_bottle 131 = .ok (.iaload, 1) := by decide +kernel
theorem dX3_bottle_132 : decode cX3_bottle 132 = .ok (.iload_n 2, 1) := by decide +kernel
theorem dX3_bottle_133 : decode cX3_bottle 133 = .ok (.isub, 1) := by decide +kernel
theorem dX3_bottle_134 : decode cX3_bottle 134 = .ok (.iastore, 1) := by decide +kernel
theorem dX3_bottle_135 : decode cX3_bottle 135 = .ok (.aload_n 0, 1) := by decide +kernel
theorem dX3_bottle_136 : decode cX3_bottle 136 = .ok (.getfield 43, 3) := by decide +kernel
theorem dX3_bottle_139 : decode cX3_bottle 139 = .ok (.iconst 4, 1) := by decide +kernel
theorem dX3_bottle_140 : decode cX3_bottle 140 = .ok (.iload_n 1, 1) := by decide +kernel
theorem dX3_bottle_141 : decode cX3_bottle 141 = .ok (.imul, 1) := by decide +kernel
theorem dX3_bottle_142 : decode cX3_bottle 142 = .ok (.iload 5, 2) := by decide +kernel
theorem dX3_bottle_144 : decode cX3_bottle 144 = .ok (.iadd, 1) := by decide +kernel
theorem dX3_bottle_145 : decode cX3_bottle 145 = .ok (.dup2, 1) := by decide +kernel
theorem dX3_bottle_146 : decode cX3_bottle 146 = .ok (.iaload, 1) := by decide +kernel
theorem dX3_bottle_147 : decode cX3_bottle 147 = .ok (.iload_n 2, 1) := by decide +kernel
theorem dX3_bottle_148 : decode cX3_bottle 148 = .ok (.iadd, 1) := by decide +kernel
theorem dX3_bottle_149 : decode cX3_bottle 149 = .ok (.iastore, 1) := by decide +kernel
theorem dX3_bottle_150 : decode cX3_bottle 150 = .ok (.aload_n 0, 1) := by decide +kernel
theorem dX3_bottle_151 : decode cX3_bottle 151 = .ok (.dup, 1) := by decide +kernel
theorem dX3_bottle_152 : decode cX3_bottle 152 = .ok (.getfield 92, 3) := by decide +kernel
theorem dX3_bottle_155 : decode cX3_bottle 155 = .ok (.iload_n 2, 1) := by decide +kernel
theorem dX3_bottle_156 : decode cX3_bottle 156 = .ok (.aload_n 0, 1) := by decide +kernel
theorem dX3_bottle_157 : decode cX3_bottle 157 = .ok (.iload 5, 2) := by decide +kernel
theorem dX3_bottle_159 : decode cX3_bottle 159 = .ok (.invokevirtual 95, 3) := by decide +kernel
theorem dX3_bottle_162 : decode cX3_bottle 162 = .ok (.imul, 1) := by decide +kernel
theorem dX3_bottle_163 : decode cX3_bottle 163 = .ok (.iadd, 1) := by decide +kernel
theorem dX3_bottle_164 : decode cX3_bottle 164 = .ok (.putfield 92, 3) := by decide +kernel
theorem dX3_bottle_167 : decode cX3_bottle 167 = .ok (.aload_n 0, 1) := by decide +kernel
theorem dX3_bottle_168 : decode cX3_bottle 168 = .ok (.iload_n 1, 1) := by decide +kernel
theorem dX3_bottle_169 : decode cX3_bottle 169 = .ok (.invokevirtual 98, 3) := by decide +kernel
theorem dX3_bottle_172 : decode cX3_bottle 172 = .ok (.iload_n 2, 1) := by decide +kernel
theorem dX3_bottle_173 : decode cX3_bottle 173 = .ok (.aload_n 0, 1) := by decide +kernel
theorem dX3_bottle_174 : decode cX3_bottle 174 = .ok (.iload 5, 2) := by decide +kernel
theorem dX3_bottle_176 : decode cX3_bottle 176 = .ok (.invokevirtual 95, 3) := by decide +kernel
theorem dX3_bottle_179 : decode cX3_bottle 179 = .ok (.imul, 1) := by decide +kernel
theorem dX3_bottle_180 : decode cX3_bottle 180 = .ok (.ireturn, 1) := by decide +kernel
set_option maxRecDepth 20000 in
theorem ggX3_measures_X3_classOf : GoodIn wsX3_measures wsX3_classOf := goodIn_r _ [10] (by decide +kernel) (by decide +kernel)
set_option maxRecDepth 20000 in
theorem gX3_measures_X3_classOf : GoodIn wsX3_measures (wsV RX3 74 RX3 yX3_classOf wsX3_classOf) := goodIn_app (goodIn_of _ (by decide +kernel)) ggX3_measures_X3_classOf
set_option maxRecDepth 20000 in
theorem ggX3_measures_X3_voids : GoodIn wsX3_measures wsX3_voids := goodIn_r _ [14, 15, 16, 21, 22, 23, 24, 25, 26, 27, 28, 29, 30, 31, 32, 33, 34, 35, 36, 37] (by decide +kernel) (by decide +kernel)
set_option maxRecDepth 20000 in
theorem gX3_measures_X3_voids : GoodIn wsX3_measures (wsV RX3 77 RX3 yX3_voids wsX3_voids) := goodIn_app (goodIn_of _ (by decide +kernel)) ggX3_measures_X3_voids
set_option maxRecDepth 20000 in
theorem ggX3_measures_X3_stamp : GoodIn wsX3_measures wsX3_stamp := goodIn_r _ [20] (by decide +kernel) (by decide +kernel)
set_option maxRecDepth 20000 in
theorem gX3_measures_X3_stamp : GoodIn wsX3_measures (wsV RX3 95 RX3 yX3_stamp wsX3_stamp) := goodIn_app (goodIn_of _ (by decide +kernel)) ggX3_measures_X3_stamp
theorem dX3_measures_0 : decode cX3_measures 0 = .ok (.aload_n 0, 1) := by decide +kernel
theorem dX3_measures_1 : decode cX3_measures 1 = .ok (.iload_n 2, 1) := by decide +kernel
theorem dX3_measures_2 : decode cX3_measures 2 = .ok (.invokevirtual 74, 3) := by decide +kernel
theorem dX3_measures_5 : decode cX3_measures 5 = .ok (.istore_n 3, 1) := by decide +kernel
theorem dX3_measures_6 : decode cX3_measures 6 = .ok (.aload_n 0, 1) := by decide +kernel
theorem dX3_measures_7 : decode cX3_measures 7 = .ok (.getfield 25, 3) := by decide +kernel
theorem dX3_measures_10 : decode cX3_measures 10 = .ok (.iload_n 1, 1) := by decide +kernel
theorem dX3_measures_11 : decode cX3_measures 11 = .ok (.iload_n 2, 1) := by decide +kernel
theorem dX3_measures_12 : decode cX3_measures 12 = .ok (.iastore, 1) := by decide +kernel
theorem dX3_measures_13 : decode cX3_measures 13 = .ok (.aload_n 0, 1) := by decide +kernel
theorem dX3_measures_14 : decode cX3_measures 14 = .ok (.getfield 28, 3) := by decide +kernel
theorem dX3_measures_17 : decode cX3_measures 17 = .ok (.iload_n 1, 1) := by decide +kernel
theorem dX3_measures_18 : decode cX3_measures 18 = .ok (.iconst 1, 1) := by decide +kernel
theorem dX3_measures_19 : decode cX3_measures 19 = .ok (.iastore, 1) := by decide +kernel
theorem dX3_measures_20 : decode cX3_measures 20 = .ok (.iload_n 3, 1) := by decide +kernel
theorem dX3_measures_21 : decode cX3_measures 21 = .ok (.aload_n 0, 1) := by decide +kernel
theorem dX3_measures_22 : decode cX3_measures 22 = .ok (.getfield 34, 3) := by decide +kernel
theorem dX3_measures_25 : decode cX3_measures 25 = .ok (.iload_n 1, 1) := by decide +kernel
theorem dX3_measures_26 : decode cX3_measures 26 = .ok (.iaload, 1) := by decide +kernel
theorem dX3_measures_27 : decode cX3_measures 27 = .ok (.if_icmp .le 8, 3) := by decide +kernel
theorem dX3_measures_30 : decode cX3_measures 30 = .ok (.aload_n 0, 1) := by decide +kernel
theorem dX3_measures_31 : decode cX3_measures 31 = .ok (.iload_n 1, 1) := by decide +kernel
theorem dX3_measures_32 : decode cX3_measures 32 = .ok (.invokevirtual 77, 3) := by decide +kernel
theorem dX3_measures_35 : decode cX3_measures 35 = .ok (.iconst 0, 1) := by decide +kernel
theorem dX3_measures_36 : decode cX3_measures 36 = .ok (.istore 4, 2) := by decide +kernel
theorem dX3_measures_38 : decode cX3_measures 38 = .ok (.iconst 0, 1) := by decide +kernel
theorem dX3_measures_39 : decode cX3_measures 39 = .ok (.istore 5, 2) := by decide +kernel
theorem dX3_measures_41 : decode cX3_measures 41 = .ok (.iload 5, 2) := by decide +kernel
theorem dX3_measures_43 : decode cX3_measures 43 = .ok (.iload_n 3, 1) := by decide +kernel
theorem dX3_measures_44 : decode cX3_measures 44 = .ok (.if_icmp .ge 74, 3) := by decide +kernel
theorem dX3_measures_47 : decode cX3_measures 47 = .ok (.iload 4, 2) := by decide +kernel
theorem dX3_measures_49 : decode cX3_measures 49 = .ok (.aload_n 0, 1) := by decide +kernel
theorem dX3_measures_50 : decode cX3_measures 50 = .ok (.getfield 43, 3) := by decide +kernel
theorem dX3_measures_53 : decode cX3_measures 53 = .ok (.iconst 4, 1) := by decide +kernel
theorem dX3_measures_54 : decode cX3_measures 54 = .ok (.iload_n 1, 1) := by decide +kernel
theorem dX3_measures_55 : decode cX3_measures 55 = .ok (.imul, 1) := by decide +kernel
theorem dX3_measures_56 : decode cX3_measures 56 = .ok (.iload 5, 2) := by decide +kernel
theorem dX3_measures_58 : decode cX3_measures 58 = .ok (.iadd, 1) := by decide +kernel
theorem dX3_measures_59 : decode cX3_measures 59 = .ok (.iaload, 1) := by decide +kernel
theorem dX3_measures_60 : decode cX3_measures 60 = .ok (.aload_n 0, 1) := by decide +kernel
theorem dX3_measures_61 : decode cX3_measures 61 = .ok (.iload_n 3, 1) := by decide +kernel
theorem dX3_measures_62 : decode cX3_measures 62 = .ok (.invokevirtual 95, 3) := by decide +kernel
theorem dX3_measures_65 : decode cX3_measures 65 = .ok (.aload_n 0, 1) := by decide +kernel
theorem dX3_measures_66 : decode cX3_measures 66 = .ok (.iload 5, 2) := by decide +kernel
theorem dX3_measures_68 : decode cX3_measures 68 = .ok (.invokevirtual 95, 3) := by decide +kernel
theorem dX3_measures_71 : decode cX3_measures 71 = .ok (.isub, 1) := by decide +kernel
theorem dX3_measures_72 : decode cX3_measures 72 = .ok (.imul, 1) := by decide +kernel
theorem dX3_measures_73 : decode cX3_measures 73 = .ok (.iadd, 1) := by decide +kernel
theorem dX3_measures_74 : decode cX3_measures 74 = .ok (.istore 4, 2) := by decide +kernel
theorem dX3_measures_76 : decode cX3_measures 76 = .ok (.aload_n 0, 1) := by decide +kernel
theorem dX3_measures_77 : decode cX3_measures 77 = .ok (.getfield 43, 3) := by decide +kernel
theorem dX3_measures_80 : decode cX3_measures 80 = .ok (.iconst 4, 1) := by decide +kernel
theorem dX3_measures_81 : decode cX3_measures 81 = .ok (.iload_n 1, 1) := by decide +kernel
theorem dX3_measures_82 : decode cX3_measures 82 = .ok (.imul, 1) := by decide +kernel
theorem dX3_measures_83 : decode cX3_measures 83 = .ok (.iload_n 3, 1) := by decide +kernel
theorem dX3_measures_84 : decode cX3_measures 84 = .ok (.iadd, 1) := by decide +kernel
theorem dX3_measures_85 : decode cX3_measures 85 = .ok (.dup2, 1) := by decide +kernel
theorem dX3_measures_86 : decode cX3_measures 86 = .ok (.iaload, 1) := by decide +kernel
theorem dX3_measures_87 : decode cX3_measures 87 = .ok (.aload_n 0, 1) := by decide +kernel
theorem dX3_measures_88 : decode cX3_measures 88 = .ok (.getfield 43, 3) := by decide +kernel
theorem dX3_measures_91 : decode cX3_measures 91 = .ok (.iconst 4, 1) := by decide +kernel
theorem dX3_measures_92 : decode cX3_measures 92 = .ok (.iload_n 1, 1) := by decide +kernel
theorem dX3_measures_93 : decode cX3_measures 93 = .ok (.imul, 1) := by decide +kernel
theorem dX3_measures_94 : decode cX3_measures 94 = .ok (.iload 5, 2) := by decide +kernel
theorem dX3_measures_96 : decode cX3_measures 96 = .ok (.iadd, 1) := by decide +kernel
theorem dX3_measures_97 : decode cX3_measures 97 = .ok (.iaload, 1) := by decide +kernel
theorem dX3_measures_98 : decode cX3_measures 98 = .ok (.iadd, 1) := by decide +kernel
theorem dX3_measures_99 : decode cX3_measures 99 = .ok (.iastore, 1) := by decide +kernel
theorem dX3_measures_100 : decode cX3_measures 100 = .ok (.aload_n 0, 1) := by decide +kernel
theorem dX3_measures_101 : decode cX3_measures 101 = .ok (.getfield 43, 3) := by decide +kernel
theorem dX3_measures_104 : decode cX3_measures 104 = .ok (.iconst 4, 1) := by decide +kernel
theorem dX3_measures_105 : decode cX3_measures 105 = .ok (.iload_n 1, 1) := by decide +kernel
theorem dX3_measures_106 : decode cX3_measures 106 = .ok (.imul, 1) := by decide +kernel
theorem dX3_measures_107 : decode cX3_measures 107 = .ok (.iload 5, 2) := by decide +kernel
theorem dX3_measures_109 : decode cX3_measures 109 = .ok (.iadd, 1) := by decide +kernel
theorem dX3_measures_110 : decode cX3_measures 110 = .ok (.iconst 0, 1) := by decide +kernel
theorem dX3_measures_111 : decode cX3_measures 111 = .ok (.iastore, 1) := by decide +kernel
theorem dX3_measures_112 : decode cX3_measures 112 = .ok (.iinc 5 1, 3) := by decide +kernel
theorem dX3_measures_115 : decode cX3_measures 115 = .ok (.goto (-74), 3) := by decide +kernel
theorem dX3_measures_118 : decode cX3_measures 118 = .ok (.aload_n 0, 1) := by decide +kernel
theorem dX3_measures_119 : decode cX3_measures 119 = .ok (.dup, 1) := by decide +kernel
theorem dX3_measures_120 : decode cX3_measures 120 = .ok (.getfield 101, 3) := by decide +kernel
theorem dX3_measures_123 : decode cX3_measures 123 = .ok (.iload 4, 2) := by decide +kernel
theorem dX3_measures_125 : decode cX3_measures 125 = .ok (.iadd, 1) := by decide +kernel
theorem dX3_measures_126 : decode cX3_measures 126 = .ok (.putfield 101, 3) := by decide +kernel
theorem dX3_measures_129 : decode cX3_measures 129 = .ok (.iload 4, 2) := by decide +kernel
theorem dX3_measures_131 : decode cX3_measures 131 = .ok (.ireturn, 1) := by decide +kernel
set_option maxRecDepth 20000 in
theorem ggX3_measure_X3_isBrew : GoodIn wsX3_measure wsX3_isBrew := goodIn_r _ [5, 6, 7, 8, 9, 4, 10, 39, 40, 41, 42, 43, 44, 45, 46, 47, 48, 49, 50, 51, 52, 53, 54, 55] (by decide +kernel) (by decide +kernel)
set_option maxRecDepth 20000 in
theorem gX3_measure_X3_isBrew : GoodIn wsX3_measure (wsV RX3 71 RX3 yX3_isBrew wsX3_isBrew) := goodIn_app (goodIn_of _ (by decide +kernel)) ggX3_measure_X3_isBrew
set_option maxRecDepth 20000 in
theorem ggX3_measure_X3_in : GoodIn wsX3_measure wsX3_in := goodIn_r _ [10] (by decide +kernel) (by decide +kernel)
set_option maxRecDepth 20000 in
theorem gX3_measure_X3_in : GoodIn wsX3_measure (wsV RX3 50 RX3 yX3_in wsX3_in) := goodIn_app (goodIn_of _ (by decide +kernel)) ggX3_measure_X3_in
set_option maxRecDepth 20000 in
theorem ggX3_measure_X3_holds : GoodIn wsX3_measure wsX3_holds := goodIn_r _ [14, 15, 39, 40, 41, 42, 43, 44, 45, 46, 47, 48, 49, 50, 51, 52, 53, 54, 55] (by decide +kernel) (by decide +kernel)
set_option maxRecDepth 20000 in
theorem gX3_measure_X3_holds : GoodIn wsX3_measure (wsV RX3 57 RX3 yX3_holds wsX3_holds) := goodIn_app (goodIn_of _ (by decide +kernel)) ggX3_measure_X3_holds
set_option maxRecDepth 20000 in
theorem ggX3_measure_X3_measures : GoodIn wsX3_measure wsX3_measures := goodIn_r _ [19, 20, 21, 22, 23, 24, 25, 26, 27, 4, 28, 29, 30, 31, 32, 33, 34, 35, 36, 37, 38, 39, 40, 41, 42, 43, 44, 45, 46, 47, 48, 49, 50, 51, 52, 53, 54, 55] (by decide +kernel) (by decide +kernel)
set_option maxRecDepth 20000 in
theorem gX3_measure_X3_measures : GoodIn wsX3_measure (wsV RX3 104 RX3 yX3_measures wsX3_measures) := goodIn_app (goodIn_of _ (by decide +kernel)) ggX3_measure_X3_measures
theorem dX3_measure_0 : decode cX3_measure 0 = .ok (.aload_n 0, 1) := by decide +kernel
theorem dX3_measure_1 : decode cX3_measure 1 = .ok (.aload_n 0, 1) := by decide +kernel
theorem dX3_measure_2 : decode cX3_measure 2 = .ok (.iload_n 1, 1) := by decide +kernel
theorem dX3_measure_3 : decode cX3_measure 3 = .ok (.invokevirtual 71, 3) := by decide +kernel
theorem dX3_measure_6 : decode cX3_measure 6 = .ok (.ifCond .ne 7, 3) := by decide +kernel
theorem dX3_measure_9 : decode cX3_measure 9 = .ok (.iconst 1, 1) := by decide +kernel
theorem dX3_measure_10 : decode cX3_measure 10 = .ok (.goto 20, 3) := by decide +kernel
theorem dX3_measure_13 : decode cX3_measure 13 = .ok (.aload_n 0, 1) := by decide +kernel
theorem dX3_measure_14 : decode cX3_measure 14 = .ok (.iload_n 2, 1) := by decide +kernel
theorem dX3_measure_15 : decode cX3_measure 15 = .ok (.iconst 0, 1) := by decide +kernel
theorem dX3_measure_16 : decode cX3_measure 16 = .ok (.sipush 250, 3) := by decide +kernel
theorem dX3_measure_19 : decode cX3_measure 19 = .ok (.invokevirtual 50, 3) := by decide +kernel
theorem dX3_measure_22 : decode cX3_measure 22 = .ok (.ifCond .eq 7, 3) := by decide +kernel
theorem dX3_measure_25 : decode cX3_measure 25 = .ok (.iconst 0, 1) := by decide +kernel
theorem dX3_measure_26 : decode cX3_measure 26 = .ok (.goto 4, 3) := by decide +kernel
theorem dX3_measure_29 : decode cX3_measure 29 = .ok (.iconst 2, 1) := by decide +kernel
theorem dX3_measure_30 : decode cX3_measure 30 = .ok (.invokevirtual 57, 3) := by decide +kernel
theorem dX3_measure_33 : decode cX3_measure 33 = .ok (.ifCond .eq 7, 3) := by decide +kernel
theorem dX3_measure_36 : decode cX3_measure 36 = .ok (.iconst (-1), 1) := by decide +kernel
theorem dX3_measure_37 : decode cX3_measure 37 = .ok (.goto 9, 3) := by decide +kernel
theorem dX3_measure_40 : decode cX3_measure 40 = .ok (.aload_n 0, 1) := by decide +kernel
theorem dX3_measure_41 : decode cX3_measure 41 = .ok (.iload_n 1, 1) := by decide +kernel
theorem dX3_measure_42 : decode cX3_measure 42 = .ok (.iload_n 2, 1) := by decide +kernel
theorem dX3_measure_43 : decode cX3_measure 43 = .ok (.invokevirtual 104, 3) := by decide +kernel
theorem dX3_measure_46 : decode cX3_measure 46 = .ok (.ireturn, 1) := by decide +kernel
set_option maxRecDepth 20000 in
theorem ggX3_blend_X3_isBrew : GoodIn wsX3_blend wsX3_isBrew := goodIn_r _ [8, 9, 10, 11, 12, 7, 13, 57, 58, 59, 60, 61, 62, 63, 64, 65, 66, 67, 68, 69, 70, 71, 72, 73] (by decide +kernel) (by decide +kernel)
set_option maxRecDepth 20000 in
theorem gX3_blend_X3_isBrew : GoodIn wsX3_blend (wsV RX3 71 RX3 yX3_isBrew wsX3_isBrew) := goodIn_app (goodIn_of _ (by decide +kernel)) ggX3_blend_X3_isBrew
set_option maxRecDepth 20000 in
theorem ggX3_blend_X3_in : GoodIn wsX3_blend wsX3_in := goodIn_r _ [13] (by decide +kernel) (by decide +kernel)
set_option maxRecDepth 20000 in
theorem gX3_blend_X3_in : GoodIn wsX3_blend (wsV RX3 50 RX3 yX3_in wsX3_in) := goodIn_app (goodIn_of _ (by decide +kernel)) ggX3_blend_X3_in
set_option maxRecDepth 20000 in
theorem ggX3_blend_X3_isRipe : GoodIn wsX3_blend wsX3_isRipe := goodIn_r _ [17, 1, 18, 19, 20, 21, 22, 23, 7, 24, 57, 58, 59, 60, 61, 62, 63, 64, 65, 66, 67, 68, 69, 70, 71, 72, 73] (by decide +kernel) (by decide +kernel)
set_option maxRecDepth 20000 in
theorem gX3_blend_X3_isRipe : GoodIn wsX3_blend (wsV RX3 89 RX3 yX3_isRipe wsX3_isRipe) := goodIn_app (goodIn_of _ (by decide +kernel)) ggX3_blend_X3_isRipe
set_option maxRecDepth 20000 in
theorem ggX3_blend_X3_holds : GoodIn wsX3_blend wsX3_holds := goodIn_r _ [28, 29, 57, 58, 59, 60, 61, 62, 63, 64, 65, 66, 67, 68, 69, 70, 71, 72, 73] (by decide +kernel) (by decide +kernel)
set_option maxRecDepth 20000 in
theorem gX3_blend_X3_holds : GoodIn wsX3_blend (wsV RX3 57 RX3 yX3_holds wsX3_holds) := goodIn_app (goodIn_of _ (by decide +kernel)) ggX3_blend_X3_holds
set_option maxRecDepth 20000 in
theorem ggX3_blend_X3_empties : GoodIn wsX3_blend wsX3_empties := goodIn_r _ [33, 1, 34, 35, 57, 58, 59, 60, 61, 62, 63, 64, 65, 66, 67, 68, 69, 70, 71, 72, 73] (by decide +kernel) (by decide +kernel)
set_option maxRecDepth 20000 in
theorem gX3_blend_X3_empties : GoodIn wsX3_blend (wsV RX3 98 RX3 yX3_empties wsX3_empties) := goodIn_app (goodIn_of _ (by decide +kernel)) ggX3_blend_X3_empties
set_option maxRecDepth 20000 in
theorem ggX3_blend_X3_measures : GoodIn wsX3_blend wsX3_measures := goodIn_r _ [39, 2, 3, 40, 41, 42, 43, 44, 45, 7, 46, 47, 48, 49, 50, 51, 52, 53, 54, 55, 56, 57, 58, 59, 60, 61, 62, 63, 64, 65, 66, 67, 68, 69, 70, 71, 72, 73] (by decide +kernel) (by decide +kernel)
set_option maxRecDepth 20000 in
theorem gX3_blend_X3_measures : GoodIn wsX3_blend (wsV RX3 104 RX3 yX3_measures wsX3_measures) := goodIn_app (goodIn_of _ (by decide +kernel)) ggX3_blend_X3_measures
theorem dX3_blend_0 : decode cX3_blend 0 = .ok (.aload_n 0, 1) := by decide +kernel
theorem dX3_blend_1 : decode cX3_blend 1 = .ok (.iload_n 1, 1) := by decide +kernel
theorem dX3_blend_2 : decode cX3_blend 2 = .ok (.invokevirtual 71, 3) := by decide +kernel
theorem dX3_blend_5 : decode cX3_blend 5 = .ok (.ifCond .eq 15, 3) := by decide +kernel
theorem dX3_blend_8 : decode cX3_blend 8 = .ok (.aload_n 0, 1) := by decide +kernel
theorem dX3_blend_9 : decode cX3_blend 9 = .ok (.iload_n 2, 1) := by decide +kernel
theorem dX3_blend_10 : decode cX3_blend 10 = .ok (.invokevirtual 71, 3) := by decide +kernel
theorem dX3_blend_13 : decode cX3_blend 13 = .ok (.ifCond .eq 7, 3) := by decide +kernel
theorem dX3_blend_16 : decode cX3_blend 16 = .ok (.iconst 1, 1) := by decide +kernel
theorem dX3_blend_17 : decode cX3_blend 17 = .ok (.goto 4, 3) := by decide +kernel
theorem dX3_blend_20 : decode cX3_blend 20 = .ok (.iconst 0, 1) := by decide +kernel
theorem dX3_blend_21 : decode cX3_blend 21 = .ok (.istore 4, 2) := by decide +kernel
theorem dX3_blend_23 : decode cX3_blend 23 = .ok (.iload_n 1, 1) := by decide +kernel
theorem dX3_blend_24 : decode cX3_blend 24 = .ok (.iload_n 2, 1) := by decide +kernel
theorem dX3_blend_25 : decode cX3_blend 25 = .ok (.if_icmp .eq 19, 3) := by decide +kernel
theorem dX3_blend_28 : decode cX3_blend 28 = .ok (.aload_n 0, 1) := by decide +kernel
theorem dX3_blend_29 : decode cX3_blend 29 = .ok (.iload_n 3, 1) := by decide +kernel
theorem dX3_blend_30 : decode cX3_blend 30 = .ok (.iconst 1, 1) := by decide +kernel
theorem dX3_blend_31 : decode cX3_blend 31 = .ok (.sipush 1000, 3) := by decide +kernel
theorem dX3_blend_34 : decode cX3_blend 34 = .ok (.invokevirtual 50, 3) := by decide +kernel
theorem dX3_blend_37 : decode cX3_blend 37 = .ok (.ifCond .eq 7, 3) := by decide +kernel
theorem dX3_blend_40 : decode cX3_blend 40 = .ok (.iconst 1, 1) := by decide +kernel
theorem dX3_blend_41 : decode cX3_blend 41 = .ok (.goto 4, 3) := by decide +kernel
theorem dX3_blend_44 : decode cX3_blend 44 = .ok (.iconst 0, 1) := by decide +kernel
theorem dX3_blend_45 : decode cX3_blend 45 = .ok (.istore 5, 2) := by decide +kernel
theorem dX3_blend_47 : decode cX3_blend 47 = .ok (.iload 4, 2) := by decide +kernel
theorem dX3_blend_49 : decode cX3_blend 49 = .ok (.ifCond .eq 47, 3) := by decide +kernel
theorem dX3_blend_52 : decode cX3_blend 52 = .ok (.aload_n 0, 1) := by decide +kernel
theorem dX3_blend_53 : decode cX3_blend 53 = .ok (.iload_n 1, 1) := by decide +kernel
theorem dX3_blend_54 : decode cX3_blend 54 = .ok (.invokevirtual 89, 3) := by decide +kernel
theorem dX3_blend_57 : decode cX3_blend 57 = .ok (.ifCond .eq 35, 3) := by decide +kernel
theorem dX3_blend_60 : decode cX3_blend 60 = .ok (.aload_n 0, 1) := by decide +kernel
theorem dX3_blend_61 : decode cX3_blend 61 = .ok (.iload_n 2, 1) := by decide +kernel
theorem dX3_blend_62 : decode cX3_blend 62 = .ok (.invokevirtual 89, 3) := by decide +kernel
theorem dX3_blend_65 : decode cX3_blend 65 = .ok (.ifCond .eq 27, 3) := by decide +kernel
theorem dX3_blend_68 : decode cX3_blend 68 = .ok (.aload_n 0, 1) := by decide +kernel
theorem dX3_blend_69 : decode cX3_blend 69 = .ok (.getfield 16, 3) := by decide +kernel
theorem dX3_blend_72 : decode cX3_blend 72 = .ok (.iload_n 2, 1) := by decide +kernel
theorem dX3_blend_73 : decode cX3_blend 73 = .ok (.iaload, 1) := by decide +kernel
theorem dX3_blend_74 : decode cX3_blend 74 = .ok (.iload_n 3, 1) := by decide +kernel
theorem dX3_blend_75 : decode cX3_blend 75 = .ok (.if_icmp .lt 17, 3) := by decide +kernel
theorem dX3_blend_78 : decode cX3_blend 78 = .ok (.aload_n 0, 1) := by decide +kernel
theorem dX3_blend_79 : decode cX3_blend 79 = .ok (.getfield 16, 3) := by decide +kernel
theorem dX3_blend_82 : decode cX3_blend 82 = .ok (.iload_n 1, 1) := by decide +kernel
theorem dX3_blend_83 : decode cX3_blend 83 = .ok (.iaload, 1) := by decide +kernel
theorem dX3_blend_84 : decode cX3_blend 84 = .ok (.iload_n 3, 1) := by decide +kernel
theorem dX3_blend_85 : decode cX3_blend 85 = .ok (.iadd, 1) := by decide +kernel
theorem dX3_blend_86 : decode cX3_blend 86 = .ok (.sipush 1000, 3) := by decide +kernel
theorem dX3_blend_89 : decode cX3_blend 89 = .ok (.if_icmp .le 7, 3) := by decide +kernel
theorem dX3_blend_92 : decode cX3_blend 92 = .ok (.iconst 1, 1) := by decide +kernel
theorem dX3_blend_93 : decode cX3_blend 93 = .ok (.goto 4, 3) := by decide +kernel
theorem dX3_blend_96 : decode cX3_blend 96 = .ok (.iconst 0, 1) := by decide +kernel
theorem dX3_blend_97 : decode cX3_blend 97 = .ok (.istore 6, 2) := by decide +kernel
theorem dX3_blend_99 : decode cX3_blend 99 = .ok (.aload_n 0, 1) := by decide +kernel
theorem dX3_blend_100 : decode cX3_blend 100 = .ok (.iload 4, 2) := by decide +kernel
theorem dX3_blend_102 : decode cX3_blend 102 = .ok (.ifCond .ne 7, 3) := by decide +kernel
theorem dX3_blend_105 : decode cX3_blend 105 = .ok (.iconst 1, 1) := by decide +kernel
theorem dX3_blend_106 : decode cX3_blend 106 = .ok (.goto 22, 3) := by decide +kernel
theorem dX3_blend_109 : decode cX3_blend 109 = .ok (.iload 5, 2) := by decide +kernel
theorem dX3_blend_111 : decode cX3_blend 111 = .ok (.ifCond .ne 7, 3) := by decide +kernel
theorem dX3_blend_114 : decode cX3_blend 114 = .ok (.iconst 2, 1) := by decide +kernel
theorem dX3_blend_115 : decode cX3_blend 115 = .ok (.goto 13, 3) := by decide +kernel
theorem dX3_blend_118 : decode cX3_blend 118 = .ok (.iload 6, 2) := by decide +kernel
theorem dX3_blend_120 : decode cX3_blend 120 = .ok (.ifCond .eq 7, 3) := by decide +kernel
theorem dX3_blend_123 : decode cX3_blend 123 = .ok (.iconst 3, 1) := by decide +kernel
theorem dX3_blend_124 : decode cX3_blend 124 = .ok (.goto 4, 3) := by decide +kernel
theorem dX3_blend_127 : decode cX3_blend 127 = .ok (.iconst 0, 1) := by decide +kernel
theorem dX3_blend_128 : decode cX3_blend 128 = .ok (.invokevirtual 57, 3) := by decide +kernel
theorem dX3_blend_131 : decode cX3_blend 131 = .ok (.ifCond .eq 5, 3) := by decide +kernel
theorem dX3_blend_134 : decode cX3_blend 134 = .ok (.iconst (-1), 1) := by decide +kernel
theorem dX3_blend_135 : decode cX3_blend 135 = .ok (.ireturn, 1) := by decide +kernel
theorem dX3_blend_136 : decode cX3_blend 136 = .ok (.aload_n 0, 1) := by decide +kernel
theorem dX3_blend_137 : decode cX3_blend 137 = .ok (.getfield 25, 3) := by decide +kernel
theorem dX3_blend_140 : decode cX3_blend 140 = .ok (.iload_n 1, 1) := by decide +kernel
theorem dX3_blend_141 : decode cX3_blend 141 = .ok (.iaload, 1) := by decide +kernel
theorem dX3_blend_142 : decode cX3_blend 142 = .ok (.aload_n 0, 1) := by decide +kernel
theorem dX3_blend_143 : decode cX3_blend 143 = .ok (.getfield 16, 3) := by decide +kernel
theorem dX3_blend_146 : decode cX3_blend 146 = .ok (.iload_n 1, 1) := by decide +kernel
theorem dX3_blend_147 : decode cX3_blend 147 = .ok (.iaload, 1) := by decide +kernel
theorem dX3_blend_148 : decode cX3_blend 148 = .ok (.imul, 1) := by decide +kernel
theorem dX3_blend_149 : decode cX3_blend 149 = .ok (.aload_n 0, 1) := by decide +kernel
theorem dX3_blend_150 : decode cX3_blend 150 = .ok (.getfield 25, 3) := by decide +kernel
theorem dX3_blend_153 : decode cX3_blend 153 = .ok (.iload_n 2, 1) := by decide +kernel
theorem dX3_blend_154 : decode cX3_blend 154 = .ok (.iaload, 1) := by decide +kernel
theorem dX3_blend_155 : decode cX3_blend 155 = .ok (.iload_n 3, 1) := by decide +kernel
theorem dX3_blend_156 : decode cX3_blend 156 = .ok (.imul, 1) := by decide +kernel
theorem dX3_blend_157 : decode cX3_blend 157 = .ok (.iadd, 1) := by decide +kernel
theorem dX3_blend_158 : decode cX3_blend 158 = .ok (.aload_n 0, 1) := by decide +kernel
theorem dX3_blend_159 : decode cX3_blend 159 = .ok (.getfield 16, 3) := by decide +kernel
theorem dX3_blend_162 : decode cX3_blend 162 = .ok (.iload_n 1, 1) := by decide +kernel
theorem dX3_blend_163 : decode cX3_blend 163 = .ok (.iaload, 1) := by decide +kernel
theorem dX3_blend_164 : decode cX3_blend 164 = .ok (.iload_n 3, 1) := by decide +kernel
theorem dX3_blend_165 : decode cX3_blend 165 = .ok (.iadd, 1) := by decide +kernel
theorem dX3_blend_166 : decode cX3_blend 166 = .ok (.idiv, 1) := by decide +kernel
theorem dX3_blend_167 : decode cX3_blend 167 = .ok (.istore 7, 2) := by decide +kernel
theorem dX3_blend_169 : decode cX3_blend 169 = .ok (.aload_n 0, 1) := by decide +kernel
theorem dX3_blend_170 : decode cX3_blend 170 = .ok (.getfield 16, 3) := by decide +kernel
theorem dX3_blend_173 : decode cX3_blend 173 = .ok (.iload_n 1, 1) := by decide +kernel
theorem dX3_blend_174 : decode cX3_blend 174 = .ok (.dup2, 1) := by decide +kernel
theorem dX3_blend_175 : decode cX3_blend 175 = .ok (.iaload, 1) := by decide +kernel
theorem dX3_blend_176 : decode cX3_blend 176 = .ok (.iload_n 3, 1) := by decide +kernel
theorem dX3_blend_177 : decode cX3_blend 177 = .ok (.iadd, 1) := by decide +kernel
theorem dX3_blend_178 : decode cX3_blend 178 = .ok (.iastore, 1) := by decide +kernel
theorem dX3_blend_179 : decode cX3_blend 179 = .ok (.aload_n 0, 1) := by decide +kernel
theorem dX3_blend_180 : decode cX3_blend 180 = .ok (.getfield 16, 3) := by decide +kernel
theorem dX3_blend_183 : decode cX3_blend 183 = .ok (.iload_n 2, 1) := by decide +kernel
theorem dX3_blend_184 : decode cX3_blend 184 = .ok (.dup2, 1) := by decide +kernel
theorem dX3_blend_185 : decode cX3_blend 185 = .ok (.iaload, 1) := by decide +kernel
theorem dX3_blend_186 : decode cX3_blend 186 = .ok (.iload_n 3, 1) := by decide +kernel
theorem dX3_blend_187 : decode cX3_blend 187 = .ok (.isub, 1) := by decide +kernel
theorem dX3_blend_188 : decode cX3_blend 188 = .ok (.iastore, 1) := by decide +kernel
theorem dX3_blend_189 : decode cX3_blend 189 = .ok (.aload_n 0, 1) := by decide +kernel
theorem dX3_blend_190 : decode cX3_blend 190 = .ok (.iload_n 2, 1) := by decide +kernel
theorem dX3_blend_191 : decode cX3_blend 191 = .ok (.invokevirtual 98, 3) := by decide +kernel
theorem dX3_blend_194 : decode cX3_blend 194 = .ok (.aload_n 0, 1) := by decide +kernel
theorem dX3_blend_195 : decode cX3_blend 195 = .ok (.getfield 28, 3) := by decide +kernel
theorem dX3_blend_198 : decode cX3_blend 198 = .ok (.iload_n 1, 1) := by decide +kernel
theorem dX3_blend_199 : decode cX3_blend 199 = .ok (.iaload, 1) := by decide +kernel
theorem dX3_blend_200 : decode cX3_blend 200 = .ok (.iconst 1, 1) := by decide +kernel
theorem dX3_blend_201 : decode cX3_blend 201 = .ok (.if_icmp .ne 25, 3) := by decide +kernel
theorem dX3_blend_204 : decode cX3_blend 204 = .ok (.aload_n 0, 1) := by decide +kernel
theorem dX3_blend_205 : decode cX3_blend 205 = .ok (.getfield 28, 3) := by decide +kernel
theorem dX3_blend_208 : decode cX3_blend 208 = .ok (.iload_n 2, 1) := by decide +kernel
theorem dX3_blend_209 : decode cX3_blend 209 = .ok (.iaload, 1) := by decide +kernel
theorem dX3_blend_210 : decode cX3_blend 210 = .ok (.iconst 1, 1) := by decide +kernel
theorem dX3_blend_211 : decode cX3_blend 211 = .ok (.if_icmp .ne 15, 3) := by decide +kernel
theorem dX3_blend_214 : decode cX3_blend 214 = .ok (.aload_n 0, 1) := by decide +kernel
theorem dX3_blend_215 : decode cX3_blend 215 = .ok (.iload_n 1, 1) := by decide +kernel
theorem dX3_blend_216 : decode cX3_blend 216 = .ok (.iload 7, 2) := by decide +kernel
theorem dX3_blend_218 : decode cX3_blend 218 = .ok (.invokevirtual 104, 3) := by decide +kernel
theorem dX3_blend_221 : decode cX3_blend 221 = .ok (.istore 8, 2) := by decide +kernel
theorem dX3_blend_223 : decode cX3_blend 223 = .ok (.goto 18, 3) := by decide +kernel
theorem dX3_blend_226 : decode cX3_blend 226 = .ok (.aload_n 0, 1) := by decide +kernel
theorem dX3_blend_227 : decode cX3_blend 227 = .ok (.getfield 25, 3) := by decide +kernel
theorem dX3_blend_230 : decode cX3_blend 230 = .ok (.iload_n 1, 1) := by decide +kernel
theorem dX3_blend_231 : decode cX3_blend 231 = .ok (.iload 7, 2) := by decide +kernel
theorem dX3_blend_233 : decode cX3_blend 233 = .ok (.iastore, 1) := by decide +kernel
theorem dX3_blend_234 : decode cX3_blend 234 = .ok (.aload_n 0, 1) := by decide +kernel
theorem dX3_blend_235 : decode cX3_blend 235 = .ok (.getfield 28, 3) := by decide +kernel
theorem dX3_blend_238 : decode cX3_blend 238 = .ok (.iload_n 1, 1) := by decide +kernel
theorem dX3_blend_239 : decode cX3_blend 239 = .ok (.iconst 0, 1) := by decide +kernel
theorem dX3_blend_240 : decode cX3_blend 240 = .ok (.iastore, 1) := by decide +kernel
theorem dX3_blend_241 : decode cX3_blend 241 = .ok (.iload 7, 2) := by decide +kernel
theorem dX3_blend_243 : decode cX3_blend 243 = .ok (.ireturn, 1) := by decide +kernel
set_option maxRecDepth 20000 in
theorem ggX3_ofBrew_X3_isBrew : GoodIn wsX3_ofBrew wsX3_isBrew := goodIn_r _ [12, 13, 14, 15, 16, 11, 17, 38, 39, 40, 41, 42, 43, 44, 45, 46, 47, 48, 49, 50, 51, 52, 53, 54] (by decide +kernel) (by decide +kernel)
set_option maxRecDepth 20000 in
theorem gX3_ofBrew_X3_isBrew : GoodIn wsX3_ofBrew (wsV RX3 71 RX3 yX3_isBrew wsX3_isBrew) := goodIn_app (goodIn_of _ (by decide +kernel)) ggX3_ofBrew_X3_isBrew
set_option maxRecDepth 20000 in
theorem ggX3_ofBrew_X3_in : GoodIn wsX3_ofBrew wsX3_in := goodIn_r _ [17] (by decide +kernel) (by decide +kernel)
set_option maxRecDepth 20000 in
theorem gX3_ofBrew_X3_in : GoodIn wsX3_ofBrew (wsV RX3 50 RX3 yX3_in wsX3_in) := goodIn_app (goodIn_of _ (by decide +kernel)) ggX3_ofBrew_X3_in
set_option maxRecDepth 20000 in
theorem ggX3_ofBrew_X3_holds : GoodIn wsX3_ofBrew wsX3_holds := goodIn_r _ [21, 22, 38, 39, 40, 41, 42, 43, 44, 45, 46, 47, 48, 49, 50, 51, 52, 53, 54] (by decide +kernel) (by decide +kernel)
set_option maxRecDepth 20000 in
theorem gX3_ofBrew_X3_holds : GoodIn wsX3_ofBrew (wsV RX3 57 RX3 yX3_holds wsX3_holds) := goodIn_app (goodIn_of _ (by decide +kernel)) ggX3_ofBrew_X3_holds
set_option maxRecDepth 20000 in
theorem ggX3_ofBrew_X3_classOf : GoodIn wsX3_ofBrew wsX3_classOf := goodIn_r _ [26] (by decide +kernel) (by decide +kernel)
set_option maxRecDepth 20000 in
theorem gX3_ofBrew_X3_classOf : GoodIn wsX3_ofBrew (wsV RX3 74 RX3 yX3_classOf wsX3_classOf) := goodIn_app (goodIn_of _ (by decide +kernel)) ggX3_ofBrew_X3_classOf
set_option maxRecDepth 20000 in
theorem ggX3_ofBrew_X3_isRipe : GoodIn wsX3_ofBrew wsX3_isRipe := goodIn_r _ [30, 2, 31, 32, 33, 34, 35, 36, 11, 37, 38, 39, 40, 41, 42, 43, 44, 45, 46, 47, 48, 49, 50, 51, 52, 53, 54] (by decide +kernel) (by decide +kernel)
set_option maxRecDepth 20000 in
theorem gX3_ofBrew_X3_isRipe : GoodIn wsX3_ofBrew (wsV RX3 89 RX3 yX3_isRipe wsX3_isRipe) := goodIn_app (goodIn_of _ (by decide +kernel)) ggX3_ofBrew_X3_isRipe
theorem dX3_ofBrew_0 : decode cX3_ofBrew 0 = .ok (.aload_n 0, 1) := by decide +kernel
theorem dX3_ofBrew_1 : decode cX3_ofBrew 1 = .ok (.aload_n 0, 1) := by decide +kernel
theorem dX3_ofBrew_2 : decode cX3_ofBrew 2 = .ok (.iload_n 1, 1) := by decide +kernel
theorem dX3_ofBrew_3 : decode cX3_ofBrew 3 = .ok (.invokevirtual 71, 3) := by decide +kernel
theorem dX3_ofBrew_6 : decode cX3_ofBrew 6 = .ok (.ifCond .ne 7, 3) := by decide +kernel
theorem dX3_ofBrew_9 : decode cX3_ofBrew 9 = .ok (.iconst 1, 1) := by decide +kernel
theorem dX3_ofBrew_10 : decode cX3_ofBrew 10 = .ok (.goto 19, 3) := by decide +kernel
theorem dX3_ofBrew_13 : decode cX3_ofBrew 13 = .ok (.aload_n 0, 1) := by decide +kernel
theorem dX3_ofBrew_14 : decode cX3_ofBrew 14 = .ok (.iload_n 2, 1) := by decide +kernel
theorem dX3_ofBrew_15 : decode cX3_ofBrew 15 = .ok (.iconst 0, 1) := by decide +kernel
theorem dX3_ofBrew_16 : decode cX3_ofBrew 16 = .ok (.bipush 8, 2) := by decide +kernel
theorem dX3_ofBrew_18 : decode cX3_ofBrew 18 = .ok (.invokevirtual 50, 3) := by decide +kernel
theorem dX3_ofBrew_21 : decode cX3_ofBrew 21 = .ok (.ifCond .eq 7, 3) := by decide +kernel
theorem dX3_ofBrew_24 : decode cX3_ofBrew 24 = .ok (.iconst 0, 1) := by decide +kernel
theorem dX3_ofBrew_25 : decode cX3_ofBrew 25 = .ok (.goto 4, 3) := by decide +kernel
theorem dX3_ofBrew_28 : decode cX3_ofBrew 28 = .ok (.iconst 2, 1) := by decide +kernel
theorem dX3_ofBrew_29 : decode cX3_ofBrew 29 = .ok (.invokevirtual 57, 3) := by decide +kernel
theorem dX3_ofBrew_32 : decode cX3_ofBrew 32 = .ok (.ifCond .eq 5, 3) := by decide +kernel
theorem dX3_ofBrew_35 : decode cX3_ofBrew 35 = .ok (.iconst (-1), 1) := by decide +kernel
theorem dX3_ofBrew_36 : decode cX3_ofBrew 36 = .ok (.ireturn, 1) := by decide +kernel
theorem dX3_ofBrew_37 : decode cX3_ofBrew 37 = .ok (.iload_n 2, 1) := by decide +kernel
theorem dX3_ofBrew_38 : decode cX3_ofBrew 38 = .ok (.tableswitch 141 0 7 #[46, 53, 60, 67, 74, 85, 92, 99], 46) := by decide +kernel
theorem dX3_ofBrew_84 : decode cX3_ofBrew 84 = .ok (.aload_n 0, 1) := by decide +kernel
theorem dX3_ofBrew_85 : decode cX3_ofBrew 85 = .ok (.getfield 13, 3) := by decide +kernel
theorem dX3_ofBrew_88 : decode cX3_ofBrew 88 = .ok (.iload_n 1, 1) := by decide +kernel
theorem dX3_ofBrew_89 : decode cX3_ofBrew 89 = .ok (.iaload, 1) := by decide +kernel
theorem dX3_ofBrew_90 : decode cX3_ofBrew 90 = .ok (.ireturn, 1) := by decide +kernel
theorem dX3_ofBrew_91 : decode cX3_ofBrew 91 = .ok (.aload_n 0, 1) := by decide +kernel
theorem dX3_ofBrew_92 : decode cX3_ofBrew 92 = .ok (.getfield 16, 3) := by decide +kernel
theorem dX3_ofBrew_95 : decode cX3_ofBrew 95 = .ok (.iload_n 1, 1) := by decide +kernel
theorem dX3_ofBrew_96 : decode cX3_ofBrew 96 = .ok (.iaload, 1) := by decide +kernel
theorem dX3_ofBrew_97 : decode cX3_ofBrew 97 = .ok (.ireturn, 1) := by decide +kernel
theorem dX3_ofBrew_98 : decode cX3_ofBrew 98 = .ok (.aload_n 0, 1) := by decide +kernel
theorem dX3_ofBrew_99 : decode cX3_ofBrew 99 = .ok (.getfield 25, 3) := by decide +kernel
theorem dX3_ofBrew_102 : decode cX3_ofBrew 102 = .ok (.iload_n 1, 1) := by decide +kernel
theorem dX3_ofBrew_103 : decode cX3_ofBrew 103 = .ok (.iaload, 1) := by decide +kernel
theorem dX3_ofBrew_104 : decode cX3_ofBrew 104 = .ok (.ireturn, 1) := by decide +kernel
theorem dX3_ofBrew_105 : decode cX3_ofBrew 105 = .ok (.aload_n 0, 1) := by decide +kernel
theorem dX3_ofBrew_106 : decode cX3_ofBrew 106 = .ok (.getfield 28, 3) := by decide +kernel
theorem dX3_ofBrew_109 : decode cX3_ofBrew 109 = .ok (.iload_n 1, 1) := by decide +kernel
theorem dX3_ofBrew_110 : decode cX3_ofBrew 110 = .ok (.iaload, 1) := by decide +kernel
theorem dX3_ofBrew_111 : decode cX3_ofBrew 111 = .ok (.ireturn, 1) := by decide +kernel
theorem dX3_ofBrew_112 : decode cX3_ofBrew 112 = .ok (.aload_n 0, 1) := by decide +kernel
theorem dX3_ofBrew_113 : decode cX3_ofBrew 113 = .ok (.aload_n 0, 1) := by decide +kernel
theorem dX3_ofBrew_114 : decode cX3_ofBrew 114 = .ok (.getfield 25, 3) := by decide +kernel
theorem dX3_ofBrew_117 : decode cX3_ofBrew 117 = .ok (.iload_n 1, 1) := by decide +kernel
theorem dX3_ofBrew_118 : decode cX3_ofBrew 118 = .ok (.iaload, 1) := by decide +kernel
theorem dX3_ofBrew_119 : decode cX3_ofBrew 119 = .ok (.invokevirtual 74, 3) := by decide +kernel
theorem dX3_ofBrew_122 : decode cX3_ofBrew 122 = .ok (.ireturn, 1) := by decide +kernel
theorem dX3_ofBrew_123 : decode cX3_ofBrew 123 = .ok (.aload_n 0, 1) := by decide +kernel
theorem dX3_ofBrew_124 : decode cX3_ofBrew 124 = .ok (.getfield 31, 3) := by decide +kernel
theorem dX3_ofBrew_127 : decode cX3_ofBrew 127 = .ok (.iload_n 1, 1) := by decide +kernel
theorem dX3_ofBrew_128 : decode cX3_ofBrew 128 = .ok (.iaload, 1) := by decide +kernel
theorem dX3_ofBrew_129 : decode cX3_ofBrew 129 = .ok (.ireturn, 1) := by decide +kernel
theorem dX3_ofBrew_130 : decode cX3_ofBrew 130 = .ok (.aload_n 0, 1) := by decide +kernel
theorem dX3_ofBrew_131 : decode cX3_ofBrew 131 = .ok (.getfield 37, 3) := by decide +kernel
theorem dX3_ofBrew_134 : decode cX3_ofBrew 134 = .ok (.iload_n 1, 1) := by decide +kernel
theorem dX3_ofBrew_135 : decode cX3_ofBrew 135 = .ok (.iaload, 1) := by decide +kernel
theorem dX3_ofBrew_136 : decode cX3_ofBrew 136 = .ok (.ireturn, 1) := by decide +kernel
theorem dX3_ofBrew_137 : decode cX3_ofBrew 137 = .ok (.aload_n 0, 1) := by decide +kernel
theorem dX3_ofBrew_138 : decode cX3_ofBrew 138 = .ok (.getfield 43, 3) := by decide +kernel
theorem dX3_ofBrew_141 : decode cX3_ofBrew 141 = .ok (.iconst 4, 1) := by decide +kernel
theorem dX3_ofBrew_142 : decode cX3_ofBrew 142 = .ok (.iload_n 1, 1) := by decide +kernel
theorem dX3_ofBrew_143 : decode cX3_ofBrew 143 = .ok (.imul, 1) := by decide +kernel
theorem dX3_ofBrew_144 : decode cX3_ofBrew 144 = .ok (.iaload, 1) := by decide +kernel
theorem dX3_ofBrew_145 : decode cX3_ofBrew 145 = .ok (.aload_n 0, 1) := by decide +kernel
theorem dX3_ofBrew_146 : decode cX3_ofBrew 146 = .ok (.getfield 43, 3) := by decide +kernel
theorem dX3_ofBrew_149 : decode cX3_ofBrew 149 = .ok (.iconst 4, 1) := by decide +kernel
theorem dX3_ofBrew_150 : decode cX3_ofBrew 150 = .ok (.iload_n 1, 1) := by decide +kernel
theorem dX3_ofBrew_151 : decode cX3_ofBrew 151 = .ok (.imul, 1) := by decide +kernel
theorem dX3_ofBrew_152 : decode cX3_ofBrew 152 = .ok (.iconst 1, 1) := by decide +kernel
theorem dX3_ofBrew_153 : decode cX3_ofBrew 153 = .ok (.iadd, 1) := by decide +kernel
theorem dX3_ofBrew_154 : decode cX3_ofBrew 154 = .ok (.iaload, 1) := by decide +kernel
theorem dX3_ofBrew_155 : decode cX3_ofBrew 155 = .ok (.iadd, 1) := by decide +kernel
theorem dX3_ofBrew_156 : decode cX3_ofBrew 156 = .ok (.aload_n 0, 1) := by decide +kernel
theorem dX3_ofBrew_157 : decode cX3_ofBrew 157 = .ok (.getfield 43, 3) := by decide +kernel
theorem dX3_ofBrew_160 : decode cX3_ofBrew 160 = .ok (.iconst 4, 1) := by decide +kernel
theorem dX3_ofBrew_161 : decode cX3_ofBrew 161 = .ok (.iload_n 1, 1) := by decide +kernel
theorem dX3_ofBrew_162 : decode cX3_ofBrew 162 = .ok (.imul, 1) := by decide +kernel
theorem dX3_ofBrew_163 : decode cX3_ofBrew 163 = .ok (.iconst 2, 1) := by decide +kernel
theorem dX3_ofBrew_164 : decode cX3_ofBrew 164 = .ok (.iadd, 1) := by decide +kernel
theorem dX3_ofBrew_165 : decode cX3_ofBrew 165 = .ok (.iaload, 1) := by decide +kernel
theorem dX3_ofBrew_166 : decode cX3_ofBrew 166 = .ok (.iadd, 1) := by decide +kernel
theorem dX3_ofBrew_167 : decode cX3_ofBrew 167 = .ok (.aload_n 0, 1) := by decide +kernel
theorem dX3_ofBrew_168 : decode cX3_ofBrew 168 = .ok (.getfield 43, 3) := by decide +kernel
theorem dX3_ofBrew_171 : decode cX3_ofBrew 171 = .ok (.iconst 4, 1) := by decide +kernel
theorem dX3_ofBrew_172 : decode cX3_ofBrew 172 = .ok (.iload_n 1, 1) := by decide +kernel
theorem dX3_ofBrew_173 : decode cX3_ofBrew 173 = .ok (.imul, 1) := by decide +kernel
theorem dX3_ofBrew_174 : decode cX3_ofBrew 174 = .ok (.iconst 3, 1) := by decide +kernel
theorem dX3_ofBrew_175 : decode cX3_ofBrew 175 = .ok (.iadd, 1) := by decide +kernel
theorem dX3_ofBrew_176 : decode cX3_ofBrew 176 = .ok (.iaload, 1) := by decide +kernel
theorem dX3_ofBrew_177 : decode cX3_ofBrew 177 = .ok (.iadd, 1) := by decide +kernel
theorem dX3_ofBrew_178 : decode cX3_ofBrew 178 = .ok (.ireturn, 1) := by decide +kernel
theorem dX3_ofBrew_179 : decode cX3_ofBrew 179 = .ok (.aload_n 0, 1) := by decide +kernel
theorem dX3_ofBrew_180 : decode cX3_ofBrew 180 = .ok (.getfield 16, 3) := by decide +kernel
theorem dX3_ofBrew_183 : decode cX3_ofBrew 183 = .ok (.iload_n 1, 1) := by decide +kernel
theorem dX3_ofBrew_184 : decode cX3_ofBrew 184 = .ok (.iaload, 1) := by decide +kernel
theorem dX3_ofBrew_185 : decode cX3_ofBrew 185 = .ok (.ifCond .ne 7, 3) := by decide +kernel
theorem dX3_ofBrew_188 : decode cX3_ofBrew 188 = .ok (.iconst 2, 1) := by decide +kernel
theorem dX3_ofBrew_189 : decode cX3_ofBrew 189 = .ok (.goto 16, 3) := by decide +kernel
theorem dX3_ofBrew_192 : decode cX3_ofBrew 192 = .ok (.aload_n 0, 1) := by decide +kernel
theorem dX3_ofBrew_193 : decode cX3_ofBrew 193 = .ok (.iload_n 1, 1) := by decide +kernel
theorem dX3_ofBrew_194 : decode cX3_ofBrew 194 = .ok (.invokevirtual 89, 3) := by decide +kernel
theorem dX3_ofBrew_197 : decode cX3_ofBrew 197 = .ok (.ifCond .eq 7, 3) := by decide +kernel
theorem dX3_ofBrew_200 : decode cX3_ofBrew 200 = .ok (.iconst 1, 1) := by decide +kernel
theorem dX3_ofBrew_201 : decode cX3_ofBrew 201 = .ok (.goto 4, 3) := by decide +kernel
theorem dX3_ofBrew_204 : decode cX3_ofBrew 204 = .ok (.iconst 0, 1) := by decide +kernel
theorem dX3_ofBrew_205 : decode cX3_ofBrew 205 = .ok (.ireturn, 1) := by decide +kernel
set_option maxRecDepth 20000 in
theorem ggX3_classAnew_X3_isBrew : GoodIn wsX3_classAnew wsX3_isBrew := goodIn_r _ [6, 7, 8, 9, 10, 5, 11, 21, 22, 23, 24, 25, 26, 27, 28, 29, 30, 31, 32, 33, 34, 35, 36, 37] (by decide +kernel) (by decide +kernel)
set_option maxRecDepth 20000 in
theorem gX3_classAnew_X3_isBrew : GoodIn wsX3_classAnew (wsV RX3 71 RX3 yX3_isBrew wsX3_isBrew) := goodIn_app (goodIn_of _ (by decide +kernel)) ggX3_classAnew_X3_isBrew
set_option maxRecDepth 20000 in
theorem ggX3_classAnew_X3_holds : GoodIn wsX3_classAnew wsX3_holds := goodIn_r _ [15, 16, 21, 22, 23, 24, 25, 26, 27, 28, 29, 30, 31, 32, 33, 34, 35, 36, 37] (by decide +kernel) (by decide +kernel)
set_option maxRecDepth 20000 in
theorem gX3_classAnew_X3_holds : GoodIn wsX3_classAnew (wsV RX3 57 RX3 yX3_holds wsX3_holds) := goodIn_app (goodIn_of _ (by decide +kernel)) ggX3_classAnew_X3_holds
set_option maxRecDepth 20000 in
theorem ggX3_classAnew_X3_classOf : GoodIn wsX3_classAnew wsX3_classOf := goodIn_r _ [20] (by decide +kernel) (by decide +kernel)
set_option maxRecDepth 20000 in
theorem gX3_classAnew_X3_classOf : GoodIn wsX3_classAnew (wsV RX3 74 RX3 yX3_classOf wsX3_classOf) := goodIn_app (goodIn_of _ (by decide +kernel)) ggX3_classAnew_X3_classOf
theorem dX3_classAnew_0 : decode cX3_classAnew 0 = .ok (.aload_n 0, 1) := by decide +kernel
theorem dX3_classAnew_1 : decode cX3_classAnew 1 = .ok (.aload_n 0, 1) := by decide +kernel
theorem dX3_classAnew_2 : decode cX3_classAnew 2 = .ok (.iload_n 1, 1) := by decide +kernel
theorem dX3_classAnew_3 : decode cX3_classAnew 3 = .ok (.invokevirtual 71, 3) := by decide +kernel
theorem dX3_classAnew_6 : decode cX3_classAnew 6 = .ok (.ifCond .eq 7, 3) := by decide +kernel
theorem dX3_classAnew_9 : decode cX3_classAnew 9 = .ok (.iconst 0, 1) := by decide +kernel
theorem dX3_classAnew_10 : decode cX3_classAnew 10 = .ok (.goto 4, 3) := by decide +kernel
theorem dX3_classAnew_13 : decode cX3_classAnew 13 = .ok (.iconst 1, 1) := by decide +kernel
theorem dX3_classAnew_14 : decode cX3_classAnew 14 = .ok (.invokevirtual 57, 3) := by decide +kernel
theorem dX3_classAnew_17 : decode cX3_classAnew 17 = .ok (.ifCond .eq 7, 3) := by decide +kernel
theorem dX3_classAnew_20 : decode cX3_classAnew 20 = .ok (.iconst (-1), 1) := by decide +kernel
theorem dX3_classAnew_21 : decode cX3_classAnew 21 = .ok (.goto 13, 3) := by decide +kernel
theorem dX3_classAnew_24 : decode cX3_classAnew 24 = .ok (.aload_n 0, 1) := by decide +kernel
theorem dX3_classAnew_25 : decode cX3_classAnew 25 = .ok (.aload_n 0, 1) := by decide +kernel
theorem dX3_classAnew_26 : decode cX3_classAnew 26 = .ok (.getfield 25, 3) := by decide +kernel
theorem dX3_classAnew_29 : decode cX3_classAnew 29 = .ok (.iload_n 1, 1) := by decide +kernel
theorem dX3_classAnew_30 : decode cX3_classAnew 30 = .ok (.iaload, 1) := by decide +kernel
theorem dX3_classAnew_31 : decode cX3_classAnew 31 = .ok (.invokevirtual 74, 3) := by decide +kernel
theorem dX3_classAnew_34 : decode cX3_classAnew 34 = .ok (.ireturn, 1) := by decide +kernel
set_option maxRecDepth 20000 in
theorem ggX3_inTank_X3_in : GoodIn wsX3_inTank wsX3_in := goodIn_r _ [6] (by decide +kernel) (by decide +kernel)
set_option maxRecDepth 20000 in
theorem gX3_inTank_X3_in : GoodIn wsX3_inTank (wsV RX3 50 RX3 yX3_in wsX3_in) := goodIn_app (goodIn_of _ (by decide +kernel)) ggX3_inTank_X3_in
set_option maxRecDepth 20000 in
theorem ggX3_inTank_X3_holds : GoodIn wsX3_inTank wsX3_holds := goodIn_r _ [10, 11, 12, 13, 14, 15, 16, 17, 18, 19, 20, 21, 22, 23, 24, 25, 26, 27, 28] (by decide +kernel) (by decide +kernel)
set_option maxRecDepth 20000 in
theorem gX3_inTank_X3_holds : GoodIn wsX3_inTank (wsV RX3 57 RX3 yX3_holds wsX3_holds) := goodIn_app (goodIn_of _ (by decide +kernel)) ggX3_inTank_X3_holds
theorem dX3_inTank_0 : decode cX3_inTank 0 = .ok (.aload_n 0, 1) := by decide +kernel
theorem dX3_inTank_1 : decode cX3_inTank 1 = .ok (.aload_n 0, 1) := by decide +kernel
theorem dX3_inTank_2 : decode cX3_inTank 2 = .ok (.iload_n 1, 1) := by decide +kernel
theorem dX3_inTank_3 : decode cX3_inTank 3 = .ok (.iconst 0, 1) := by decide +kernel
theorem dX3_inTank_4 : decode cX3_inTank 4 = .ok (.bipush 7, 2) := by decide +kernel
theorem dX3_inTank_6 : decode cX3_inTank 6 = .ok (.invokevirtual 50, 3) := by decide +kernel
theorem dX3_inTank_9 : decode cX3_inTank 9 = .ok (.ifCond .eq 7, 3) := by decide +kernel
theorem dX3_inTank_12 : decode cX3_inTank 12 = .ok (.iconst 0, 1) := by decide +kernel
theorem dX3_inTank_13 : decode cX3_inTank 13 = .ok (.goto 4, 3) := by decide +kernel
theorem dX3_inTank_16 : decode cX3_inTank 16 = .ok (.iconst 1, 1) := by decide +kernel
theorem dX3_inTank_17 : decode cX3_inTank 17 = .ok (.invokevirtual 57, 3) := by decide +kernel
theorem dX3_inTank_20 : decode cX3_inTank 20 = .ok (.ifCond .eq 7, 3) := by decide +kernel
theorem dX3_inTank_23 : decode cX3_inTank 23 = .ok (.iconst (-1), 1) := by decide +kernel
theorem dX3_inTank_24 : decode cX3_inTank 24 = .ok (.goto 9, 3) := by decide +kernel
theorem dX3_inTank_27 : decode cX3_inTank 27 = .ok (.aload_n 0, 1) := by decide +kernel
theorem dX3_inTank_28 : decode cX3_inTank 28 = .ok (.getfield 7, 3) := by decide +kernel
theorem dX3_inTank_31 : decode cX3_inTank 31 = .ok (.iload_n 1, 1) := by decide +kernel
theorem dX3_inTank_32 : decode cX3_inTank 32 = .ok (.iaload, 1) := by decide +kernel
theorem dX3_inTank_33 : decode cX3_inTank 33 = .ok (.ireturn, 1) := by decide +kernel
set_option maxRecDepth 20000 in
theorem ggX3_paid_X3_holds : GoodIn wsX3_paid wsX3_holds := goodIn_r _ [6, 7, 8, 9, 10, 11, 12, 13, 14, 15, 16, 17, 18, 19, 20, 21, 22, 23, 24] (by decide +kernel) (by decide +kernel)
set_option maxRecDepth 20000 in
theorem gX3_paid_X3_holds : GoodIn wsX3_paid (wsV RX3 57 RX3 yX3_holds wsX3_holds) := goodIn_app (goodIn_of _ (by decide +kernel)) ggX3_paid_X3_holds
theorem dX3_paid_0 : decode cX3_paid 0 = .ok (.aload_n 0, 1) := by decide +kernel
theorem dX3_paid_1 : decode cX3_paid 1 = .ok (.iconst 0, 1) := by decide +kernel
theorem dX3_paid_2 : decode cX3_paid 2 = .ok (.invokevirtual 57, 3) := by decide +kernel
theorem dX3_paid_5 : decode cX3_paid 5 = .ok (.pop, 1) := by decide +kernel
theorem dX3_paid_6 : decode cX3_paid 6 = .ok (.aload_n 0, 1) := by decide +kernel
theorem dX3_paid_7 : decode cX3_paid 7 = .ok (.getfield 92, 3) := by decide +kernel
theorem dX3_paid_10 : decode cX3_paid 10 = .ok (.ireturn, 1) := by decide +kernel
set_option maxRecDepth 20000 in
theorem ggX3_owed_X3_holds : GoodIn wsX3_owed wsX3_holds := goodIn_r _ [6, 7, 8, 9, 10, 11, 12, 13, 14, 15, 16, 17, 18, 19, 20, 21, 22, 23, 24] (by decide +kernel) (by decide +kernel)
set_option maxRecDepth 20000 in
theorem gX3_owed_X3_holds : GoodIn wsX3_owed (wsV RX3 57 RX3 yX3_holds wsX3_holds) := goodIn_app (goodIn_of _ (by decide +kernel)) ggX3_owed_X3_holds
theorem dX3_owed_0 : decode cX3_owed 0 = .ok (.aload_n 0, 1) := by decide +kernel
theorem dX3_owed_1 : decode cX3_owed 1 = .ok (.iconst 0, 1) := by decide +kernel
theorem dX3_owed_2 : decode cX3_owed 2 = .ok (.invokevirtual 57, 3) := by decide +kernel
theorem dX3_owed_5 : decode cX3_owed 5 = .ok (.pop, 1) := by decide +kernel
theorem dX3_owed_6 : decode cX3_owed 6 = .ok (.aload_n 0, 1) := by decide +kernel
theorem dX3_owed_7 : decode cX3_owed 7 = .ok (.getfield 101, 3) := by decide +kernel
theorem dX3_owed_10 : decode cX3_owed 10 = .ok (.ireturn, 1) := by decide +kernel
set_option maxRecDepth 20000 in
theorem ggX3_pay_X3_in : GoodIn wsX3_pay wsX3_in := goodIn_r _ [7] (by decide +kernel) (by decide +kernel)
set_option maxRecDepth 20000 in
theorem gX3_pay_X3_in : GoodIn wsX3_pay (wsV RX3 50 RX3 yX3_in wsX3_in) := goodIn_app (goodIn_of _ (by decide +kernel)) ggX3_pay_X3_in
set_option maxRecDepth 20000 in
theorem ggX3_pay_X3_holds : GoodIn wsX3_pay wsX3_holds := goodIn_r _ [11, 12, 13, 14, 15, 16, 17, 18, 19, 20, 21, 22, 23, 24, 25, 26, 27, 28, 29] (by decide +kernel) (by decide +kernel)
set_option maxRecDepth 20000 in
theorem gX3_pay_X3_holds : GoodIn wsX3_pay (wsV RX3 57 RX3 yX3_holds wsX3_holds) := goodIn_app (goodIn_of _ (by decide +kernel)) ggX3_pay_X3_holds
theorem dX3_pay_0 : decode cX3_pay 0 = .ok (.aload_n 0, 1) := by decide +kernel
theorem dX3_pay_1 : decode cX3_pay 1 = .ok (.aload_n 0, 1) := by decide +kernel
theorem dX3_pay_2 : decode cX3_pay 2 = .ok (.iload_n 1, 1) := by decide +kernel
theorem dX3_pay_3 : decode cX3_pay 3 = .ok (.iconst 1, 1) := by decide +kernel
theorem dX3_pay_4 : decode cX3_pay 4 = .ok (.ldc 108, 2) := by decide +kernel
theorem dX3_pay_6 : decode cX3_pay 6 = .ok (.invokevirtual 50, 3) := by decide +kernel
theorem dX3_pay_9 : decode cX3_pay 9 = .ok (.ifCond .eq 7, 3) := by decide +kernel
theorem dX3_pay_12 : decode cX3_pay 12 = .ok (.iconst 0, 1) := by decide +kernel
theorem dX3_pay_13 : decode cX3_pay 13 = .ok (.goto 4, 3) := by decide +kernel
theorem dX3_pay_16 : decode cX3_pay 16 = .ok (.iconst 1, 1) := by decide +kernel
theorem dX3_pay_17 : decode cX3_pay 17 = .ok (.invokevirtual 57, 3) := by decide +kernel
theorem dX3_pay_20 : decode cX3_pay 20 = .ok (.ifCond .eq 5, 3) := by decide +kernel
theorem dX3_pay_23 : decode cX3_pay 23 = .ok (.iconst (-1), 1) := by decide +kernel
theorem dX3_pay_24 : decode cX3_pay 24 = .ok (.ireturn, 1) := by decide +kernel
theorem dX3_pay_25 : decode cX3_pay 25 = .ok (.aload_n 0, 1) := by decide +kernel
theorem dX3_pay_26 : decode cX3_pay 26 = .ok (.getfield 101, 3) := by decide +kernel
theorem dX3_pay_29 : decode cX3_pay 29 = .ok (.iload_n 1, 1) := by decide +kernel
theorem dX3_pay_30 : decode cX3_pay 30 = .ok (.if_icmp .ge 10, 3) := by decide +kernel
theorem dX3_pay_33 : decode cX3_pay 33 = .ok (.aload_n 0, 1) := by decide +kernel
theorem dX3_pay_34 : decode cX3_pay 34 = .ok (.getfield 101, 3) := by decide +kernel
theorem dX3_pay_37 : decode cX3_pay 37 = .ok (.goto 4, 3) := by decide +kernel
theorem dX3_pay_40 : decode cX3_pay 40 = .ok (.iload_n 1, 1) := by decide +kernel
theorem dX3_pay_41 : decode cX3_pay 41 = .ok (.istore_n 2, 1) := by decide +kernel
theorem dX3_pay_42 : decode cX3_pay 42 = .ok (.aload_n 0, 1) := by decide +kernel
theorem dX3_pay_43 : decode cX3_pay 43 = .ok (.dup, 1) := by decide +kernel
theorem dX3_pay_44 : decode cX3_pay 44 = .ok (.getfield 101, 3) := by decide +kernel
theorem dX3_pay_47 : decode cX3_pay 47 = .ok (.iload_n 2, 1) := by decide +kernel
theorem dX3_pay_48 : decode cX3_pay 48 = .ok (.isub, 1) := by decide +kernel
theorem dX3_pay_49 : decode cX3_pay 49 = .ok (.putfield 101, 3) := by decide +kernel
theorem dX3_pay_52 : decode cX3_pay 52 = .ok (.iload_n 2, 1) := by decide +kernel
theorem dX3_pay_53 : decode cX3_pay 53 = .ok (.ireturn, 1) := by decide +kernel
