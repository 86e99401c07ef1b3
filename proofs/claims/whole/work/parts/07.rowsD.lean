theorem dX8_goesBy_0 : decode cX8_goesBy 0 = .ok (.aload_n 0, 1) := by decide +kernel
theorem dX8_goesBy_1 : decode cX8_goesBy 1 = .ok (.dup, 1) := by decide +kernel
theorem dX8_goesBy_2 : decode cX8_goesBy 2 = .ok (.getfield 117, 3) := by decide +kernel
theorem dX8_goesBy_5 : decode cX8_goesBy 5 = .ok (.iload_n 1, 1) := by decide +kernel
theorem dX8_goesBy_6 : decode cX8_goesBy 6 = .ok (.iadd, 1) := by decide +kernel
theorem dX8_goesBy_7 : decode cX8_goesBy 7 = .ok (.putfield 117, 3) := by decide +kernel
theorem dX8_goesBy_10 : decode cX8_goesBy 10 = .ok (.aload_n 0, 1) := by decide +kernel
theorem dX8_goesBy_11 : decode cX8_goesBy 11 = .ok (.getfield 43, 3) := by decide +kernel
theorem dX8_goesBy_14 : decode cX8_goesBy 14 = .ok (.aload_n 0, 1) := by decide +kernel
theorem dX8_goesBy_15 : decode cX8_goesBy 15 = .ok (.getfield 90, 3) := by decide +kernel
theorem dX8_goesBy_18 : decode cX8_goesBy 18 = .ok (.if_icmp .ne 21, 3) := by decide +kernel
theorem dX8_goesBy_21 : decode cX8_goesBy 21 = .ok (.aload_n 0, 1) := by decide +kernel
theorem dX8_goesBy_22 : decode cX8_goesBy 22 = .ok (.iconst 2, 1) := by decide +kernel
theorem dX8_goesBy_23 : decode cX8_goesBy 23 = .ok (.putfield 84, 3) := by decide +kernel
theorem dX8_goesBy_26 : decode cX8_goesBy 26 = .ok (.aload_n 0, 1) := by decide +kernel
theorem dX8_goesBy_27 : decode cX8_goesBy 27 = .ok (.dup, 1) := by decide +kernel
theorem dX8_goesBy_28 : decode cX8_goesBy 28 = .ok (.getfield 123, 3) := by decide +kernel
theorem dX8_goesBy_31 : decode cX8_goesBy 31 = .ok (.iconst 1, 1) := by decide +kernel
theorem dX8_goesBy_32 : decode cX8_goesBy 32 = .ok (.iadd, 1) := by decide +kernel
theorem dX8_goesBy_33 : decode cX8_goesBy 33 = .ok (.putfield 123, 3) := by decide +kernel
theorem dX8_goesBy_36 : decode cX8_goesBy 36 = .ok (.goto 29, 3) := by decide +kernel
theorem dX8_goesBy_39 : decode cX8_goesBy 39 = .ok (.aload_n 0, 1) := by decide +kernel
theorem dX8_goesBy_40 : decode cX8_goesBy 40 = .ok (.getfield 117, 3) := by decide +kernel
theorem dX8_goesBy_43 : decode cX8_goesBy 43 = .ok (.aload_n 0, 1) := by decide +kernel
theorem dX8_goesBy_44 : decode cX8_goesBy 44 = .ok (.getfield 114, 3) := by decide +kernel
theorem dX8_goesBy_47 : decode cX8_goesBy 47 = .ok (.if_icmp .lt 18, 3) := by decide +kernel
theorem dX8_goesBy_50 : decode cX8_goesBy 50 = .ok (.aload_n 0, 1) := by decide +kernel
theorem dX8_goesBy_51 : decode cX8_goesBy 51 = .ok (.iconst 3, 1) := by decide +kernel
theorem dX8_goesBy_52 : decode cX8_goesBy 52 = .ok (.putfield 84, 3) := by decide +kernel
theorem dX8_goesBy_55 : decode cX8_goesBy 55 = .ok (.aload_n 0, 1) := by decide +kernel
theorem dX8_goesBy_56 : decode cX8_goesBy 56 = .ok (.dup, 1) := by decide +kernel
theorem dX8_goesBy_57 : decode cX8_goesBy 57 = .ok (.getfield 126, 3) := by decide +kernel
theorem dX8_goesBy_60 : decode cX8_goesBy 60 = .ok (.iconst 1, 1) := by decide +kernel
theorem dX8_goesBy_61 : decode cX8_goesBy 61 = .ok (.iadd, 1) := by decide +kernel
theorem dX8_goesBy_62 : decode cX8_goesBy 62 = .ok (.putfield 126, 3) := by decide +kernel
theorem dX8_goesBy_65 : decode cX8_goesBy 65 = .ok (.return_, 1) := by decide +kernel
set_option maxRecDepth 20000 in
theorem ggX8_moved_X8_goesBy : GoodIn wsX8_moved wsX8_goesBy := goodIn_r _ [7, 8, 1, 9, 10, 11, 12, 13, 14, 15, 16, 17, 18, 19, 20, 21, 22, 23, 24, 25, 26, 27, 28, 29, 30, 31, 32, 33, 34, 35, 36, 37, 38, 39, 40, 41, 42] (by decide +kernel) (by decide +kernel)
set_option maxRecDepth 20000 in
theorem gX8_moved_X8_goesBy : GoodIn wsX8_moved (wsV RX8 129 RX8 yX8_goesBy wsX8_goesBy) := goodIn_app (goodIn_of _ (by decide +kernel)) ggX8_moved_X8_goesBy
theorem dX8_moved_0 : decode cX8_moved 0 = .ok (.aload_n 0, 1) := by decide +kernel
theorem dX8_moved_1 : decode cX8_moved 1 = .ok (.dup, 1) := by decide +kernel
theorem dX8_moved_2 : decode cX8_moved 2 = .ok (.getfield 43, 3) := by decide +kernel
theorem dX8_moved_5 : decode cX8_moved 5 = .ok (.iload_n 1, 1) := by decide +kernel
theorem dX8_moved_6 : decode cX8_moved 6 = .ok (.ifCond .eq 7, 3) := by decide +kernel
theorem dX8_moved_9 : decode cX8_moved 9 = .ok (.iconst 1, 1) := by decide +kernel
theorem dX8_moved_10 : decode cX8_moved 10 = .ok (.goto 4, 3) := by decide +kernel
theorem dX8_moved_13 : decode cX8_moved 13 = .ok (.iconst 0, 1) := by decide +kernel
theorem dX8_moved_14 : decode cX8_moved 14 = .ok (.iadd, 1) := by decide +kernel
theorem dX8_moved_15 : decode cX8_moved 15 = .ok (.putfield 43, 3) := by decide +kernel
theorem dX8_moved_18 : decode cX8_moved 18 = .ok (.aload_n 0, 1) := by decide +kernel
theorem dX8_moved_19 : decode cX8_moved 19 = .ok (.dup, 1) := by decide +kernel
theorem dX8_moved_20 : decode cX8_moved 20 = .ok (.getfield 120, 3) := by decide +kernel
theorem dX8_moved_23 : decode cX8_moved 23 = .ok (.iconst 1, 1) := by decide +kernel
theorem dX8_moved_24 : decode cX8_moved 24 = .ok (.iadd, 1) := by decide +kernel
theorem dX8_moved_25 : decode cX8_moved 25 = .ok (.putfield 120, 3) := by decide +kernel
theorem dX8_moved_28 : decode cX8_moved 28 = .ok (.aload_n 0, 1) := by decide +kernel
theorem dX8_moved_29 : decode cX8_moved 29 = .ok (.iconst 1, 1) := by decide +kernel
theorem dX8_moved_30 : decode cX8_moved 30 = .ok (.invokevirtual 129, 3) := by decide +kernel
theorem dX8_moved_33 : decode cX8_moved 33 = .ok (.iload_n 1, 1) := by decide +kernel
theorem dX8_moved_34 : decode cX8_moved 34 = .ok (.ifCond .eq 7, 3) := by decide +kernel
theorem dX8_moved_37 : decode cX8_moved 37 = .ok (.iconst 2, 1) := by decide +kernel
theorem dX8_moved_38 : decode cX8_moved 38 = .ok (.goto 4, 3) := by decide +kernel
theorem dX8_moved_41 : decode cX8_moved 41 = .ok (.iconst 1, 1) := by decide +kernel
theorem dX8_moved_42 : decode cX8_moved 42 = .ok (.ireturn, 1) := by decide +kernel
theorem dX8_isNext_0 : decode cX8_isNext 0 = .ok (.aload_n 0, 1) := by decide +kernel
theorem dX8_isNext_1 : decode cX8_isNext 1 = .ok (.getfield 16, 3) := by decide +kernel
theorem dX8_isNext_4 : decode cX8_isNext 4 = .ok (.aload_n 0, 1) := by decide +kernel
theorem dX8_isNext_5 : decode cX8_isNext 5 = .ok (.getfield 43, 3) := by decide +kernel
theorem dX8_isNext_8 : decode cX8_isNext 8 = .ok (.iaload, 1) := by decide +kernel
theorem dX8_isNext_9 : decode cX8_isNext 9 = .ok (.iload_n 1, 1) := by decide +kernel
theorem dX8_isNext_10 : decode cX8_isNext 10 = .ok (.if_icmp .ne 20, 3) := by decide +kernel
theorem dX8_isNext_13 : decode cX8_isNext 13 = .ok (.aload_n 0, 1) := by decide +kernel
theorem dX8_isNext_14 : decode cX8_isNext 14 = .ok (.getfield 19, 3) := by decide +kernel
theorem dX8_isNext_17 : decode cX8_isNext 17 = .ok (.aload_n 0, 1) := by decide +kernel
theorem dX8_isNext_18 : decode cX8_isNext 18 = .ok (.getfield 43, 3) := by decide +kernel
theorem dX8_isNext_21 : decode cX8_isNext 21 = .ok (.iaload, 1) := by decide +kernel
theorem dX8_isNext_22 : decode cX8_isNext 22 = .ok (.iload_n 2, 1) := by decide +kernel
theorem dX8_isNext_23 : decode cX8_isNext 23 = .ok (.if_icmp .ne 7, 3) := by decide +kernel
theorem dX8_isNext_26 : decode cX8_isNext 26 = .ok (.iconst 1, 1) := by decide +kernel
theorem dX8_isNext_27 : decode cX8_isNext 27 = .ok (.goto 4, 3) := by decide +kernel
theorem dX8_isNext_30 : decode cX8_isNext 30 = .ok (.iconst 0, 1) := by decide +kernel
theorem dX8_isNext_31 : decode cX8_isNext 31 = .ok (.ireturn, 1) := by decide +kernel
set_option maxRecDepth 20000 in
theorem ggX8_isOn_X8_holds : GoodIn wsX8_isOn wsX8_holds := goodIn_r _ [6] (by decide +kernel) (by decide +kernel)
set_option maxRecDepth 20000 in
theorem gX8_isOn_X8_holds : GoodIn wsX8_isOn (va_wsS RX8 76 yX8_holds wsX8_holds) := goodIn_app (goodIn_of _ (by decide +kernel)) ggX8_isOn_X8_holds
theorem dX8_isOn_0 : decode cX8_isOn 0 = .ok (.aload_n 0, 1) := by decide +kernel
theorem dX8_isOn_1 : decode cX8_isOn 1 = .ok (.getfield 84, 3) := by decide +kernel
theorem dX8_isOn_4 : decode cX8_isOn 4 = .ok (.iconst 1, 1) := by decide +kernel
theorem dX8_isOn_5 : decode cX8_isOn 5 = .ok (.if_icmp .ne 18, 3) := by decide +kernel
theorem dX8_isOn_8 : decode cX8_isOn 8 = .ok (.aload_n 0, 1) := by decide +kernel
theorem dX8_isOn_9 : decode cX8_isOn 9 = .ok (.getfield 96, 3) := by decide +kernel
theorem dX8_isOn_12 : decode cX8_isOn 12 = .ok (.iload_n 1, 1) := by decide +kernel
theorem dX8_isOn_13 : decode cX8_isOn 13 = .ok (.invokestatic 76, 3) := by decide +kernel
theorem dX8_isOn_16 : decode cX8_isOn 16 = .ok (.ifCond .eq 7, 3) := by decide +kernel
theorem dX8_isOn_19 : decode cX8_isOn 19 = .ok (.iconst 1, 1) := by decide +kernel
theorem dX8_isOn_20 : decode cX8_isOn 20 = .ok (.goto 4, 3) := by decide +kernel
theorem dX8_isOn_23 : decode cX8_isOn 23 = .ok (.iconst 0, 1) := by decide +kernel
theorem dX8_isOn_24 : decode cX8_isOn 24 = .ok (.ireturn, 1) := by decide +kernel
set_option maxRecDepth 20000 in
theorem ggX8_enter_X8_isMask : GoodIn wsX8_enter wsX8_isMask := goodIn_r _ [7, 8, 9, 6, 10] (by decide +kernel) (by decide +kernel)
set_option maxRecDepth 20000 in
theorem gX8_enter_X8_isMask : GoodIn wsX8_enter (va_wsS RX8 66 yX8_isMask wsX8_isMask) := goodIn_app (goodIn_of _ (by decide +kernel)) ggX8_enter_X8_isMask
set_option maxRecDepth 20000 in
theorem ggX8_enter_X8_holds : GoodIn wsX8_enter wsX8_holds := goodIn_r _ [13] (by decide +kernel) (by decide +kernel)
set_option maxRecDepth 20000 in
theorem gX8_enter_X8_holds : GoodIn wsX8_enter (va_wsS RX8 76 yX8_holds wsX8_holds) := goodIn_app (goodIn_of _ (by decide +kernel)) ggX8_enter_X8_holds
set_option maxRecDepth 20000 in
theorem ggX8_enter_X8_fails : GoodIn wsX8_enter wsX8_fails := goodIn_r _ [17, 18, 40, 41, 42, 43, 44, 45, 46, 47, 48, 49, 50, 51, 52, 53, 54, 55, 56, 57, 58, 59, 60, 61, 62, 63, 64, 65, 66, 67, 68] (by decide +kernel) (by decide +kernel)
set_option maxRecDepth 20000 in
theorem gX8_enter_X8_fails : GoodIn wsX8_enter (wsV RX8 73 RX8 yX8_fails wsX8_fails) := goodIn_app (goodIn_of _ (by decide +kernel)) ggX8_enter_X8_fails
set_option maxRecDepth 20000 in
theorem ggX8_enter_X8_isNext : GoodIn wsX8_enter wsX8_isNext := goodIn_r _ [22, 23, 24, 25, 40, 41, 42, 43, 44, 45, 46, 47, 48, 49, 50, 51, 52, 53, 54, 55, 56, 57, 58, 59, 60, 61, 62, 63, 64, 65, 66, 67, 68] (by decide +kernel) (by decide +kernel)
set_option maxRecDepth 20000 in
theorem gX8_enter_X8_isNext : GoodIn wsX8_enter (wsV RX8 133 RX8 yX8_isNext wsX8_isNext) := goodIn_app (goodIn_of _ (by decide +kernel)) ggX8_enter_X8_isNext
set_option maxRecDepth 20000 in
theorem ggX8_enter_X8_moved : GoodIn wsX8_enter wsX8_moved := goodIn_r _ [29, 24, 30, 31, 32, 33, 6, 34, 35, 36, 1, 37, 38, 39, 40, 41, 42, 43, 44, 45, 46, 47, 48, 49, 50, 51, 52, 53, 54, 55, 56, 57, 58, 59, 60, 61, 62, 63, 64, 65, 66, 67, 68] (by decide +kernel) (by decide +kernel)
set_option maxRecDepth 20000 in
theorem gX8_enter_X8_moved : GoodIn wsX8_enter (wsV RX8 136 RX8 yX8_moved wsX8_moved) := goodIn_app (goodIn_of _ (by decide +kernel)) ggX8_enter_X8_moved
theorem dX8_enter_0 : decode cX8_enter 0 = .ok (.iload_n 1, 1) := by decide +kernel
theorem dX8_enter_1 : decode cX8_enter 1 = .ok (.invokestatic 66, 3) := by decide +kernel
theorem dX8_enter_4 : decode cX8_enter 4 = .ok (.ifCond .eq 37, 3) := by decide +kernel
theorem dX8_enter_7 : decode cX8_enter 7 = .ok (.aload_n 0, 1) := by decide +kernel
theorem dX8_enter_8 : decode cX8_enter 8 = .ok (.getfield 84, 3) := by decide +kernel
theorem dX8_enter_11 : decode cX8_enter 11 = .ok (.iconst 1, 1) := by decide +kernel
theorem dX8_enter_12 : decode cX8_enter 12 = .ok (.if_icmp .ne 29, 3) := by decide +kernel
theorem dX8_enter_15 : decode cX8_enter 15 = .ok (.aload_n 0, 1) := by decide +kernel
theorem dX8_enter_16 : decode cX8_enter 16 = .ok (.getfield 93, 3) := by decide +kernel
theorem dX8_enter_19 : decode cX8_enter 19 = .ok (.iload_n 1, 1) := by decide +kernel
theorem dX8_enter_20 : decode cX8_enter 20 = .ok (.invokestatic 76, 3) := by decide +kernel
theorem dX8_enter_23 : decode cX8_enter 23 = .ok (.ifCond .ne 18, 3) := by decide +kernel
theorem dX8_enter_26 : decode cX8_enter 26 = .ok (.aload_n 0, 1) := by decide +kernel
theorem dX8_enter_27 : decode cX8_enter 27 = .ok (.getfield 96, 3) := by decide +kernel
theorem dX8_enter_30 : decode cX8_enter 30 = .ok (.iload_n 1, 1) := by decide +kernel
theorem dX8_enter_31 : decode cX8_enter 31 = .ok (.invokestatic 76, 3) := by decide +kernel
theorem dX8_enter_34 : decode cX8_enter 34 = .ok (.ifCond .ne 7, 3) := by decide +kernel
theorem dX8_enter_37 : decode cX8_enter 37 = .ok (.iconst 1, 1) := by decide +kernel
theorem dX8_enter_38 : decode cX8_enter 38 = .ok (.goto 4, 3) := by decide +kernel
theorem dX8_enter_41 : decode cX8_enter 41 = .ok (.iconst 0, 1) := by decide +kernel
theorem dX8_enter_42 : decode cX8_enter 42 = .ok (.istore_n 2, 1) := by decide +kernel
theorem dX8_enter_43 : decode cX8_enter 43 = .ok (.aload_n 0, 1) := by decide +kernel
theorem dX8_enter_44 : decode cX8_enter 44 = .ok (.iload_n 1, 1) := by decide +kernel
theorem dX8_enter_45 : decode cX8_enter 45 = .ok (.invokestatic 66, 3) := by decide +kernel
theorem dX8_enter_48 : decode cX8_enter 48 = .ok (.ifCond .ne 7, 3) := by decide +kernel
theorem dX8_enter_51 : decode cX8_enter 51 = .ok (.iconst 1, 1) := by decide +kernel
theorem dX8_enter_52 : decode cX8_enter 52 = .ok (.goto 12, 3) := by decide +kernel
theorem dX8_enter_55 : decode cX8_enter 55 = .ok (.iload_n 2, 1) := by decide +kernel
theorem dX8_enter_56 : decode cX8_enter 56 = .ok (.ifCond .eq 7, 3) := by decide +kernel
theorem dX8_enter_59 : decode cX8_enter 59 = .ok (.iconst 0, 1) := by decide +kernel
theorem dX8_enter_60 : decode cX8_enter 60 = .ok (.goto 4, 3) := by decide +kernel
theorem dX8_enter_63 : decode cX8_enter 63 = .ok (.iconst 2, 1) := by decide +kernel
theorem dX8_enter_64 : decode cX8_enter 64 = .ok (.invokevirtual 73, 3) := by decide +kernel
theorem dX8_enter_67 : decode cX8_enter 67 = .ok (.ifCond .eq 5, 3) := by decide +kernel
theorem dX8_enter_70 : decode cX8_enter 70 = .ok (.iconst 0, 1) := by decide +kernel
theorem dX8_enter_71 : decode cX8_enter 71 = .ok (.ireturn, 1) := by decide +kernel
theorem dX8_enter_72 : decode cX8_enter 72 = .ok (.aload_n 0, 1) := by decide +kernel
theorem dX8_enter_73 : decode cX8_enter 73 = .ok (.dup, 1) := by decide +kernel
theorem dX8_enter_74 : decode cX8_enter 74 = .ok (.getfield 96, 3) := by decide +kernel
theorem dX8_enter_77 : decode cX8_enter 77 = .ok (.iconst 1, 1) := by decide +kernel
theorem dX8_enter_78 : decode cX8_enter 78 = .ok (.iload_n 1, 1) := by decide +kernel
theorem dX8_enter_79 : decode cX8_enter 79 = .ok (.ishl, 1) := by decide +kernel
theorem dX8_enter_80 : decode cX8_enter 80 = .ok (.ior, 1) := by decide +kernel
theorem dX8_enter_81 : decode cX8_enter 81 = .ok (.putfield 96, 3) := by decide +kernel
theorem dX8_enter_84 : decode cX8_enter 84 = .ok (.aload_n 0, 1) := by decide +kernel
theorem dX8_enter_85 : decode cX8_enter 85 = .ok (.aload_n 0, 1) := by decide +kernel
theorem dX8_enter_86 : decode cX8_enter 86 = .ok (.iconst 2, 1) := by decide +kernel
theorem dX8_enter_87 : decode cX8_enter 87 = .ok (.iload_n 1, 1) := by decide +kernel
theorem dX8_enter_88 : decode cX8_enter 88 = .ok (.invokevirtual 133, 3) := by decide +kernel
theorem dX8_enter_91 : decode cX8_enter 91 = .ok (.invokevirtual 136, 3) := by decide +kernel
theorem dX8_enter_94 : decode cX8_enter 94 = .ok (.ireturn, 1) := by decide +kernel
set_option maxRecDepth 20000 in
theorem ggX8_exit_X8_isMask : GoodIn wsX8_exit wsX8_isMask := goodIn_r _ [5, 6, 7, 4, 8] (by decide +kernel) (by decide +kernel)
set_option maxRecDepth 20000 in
theorem gX8_exit_X8_isMask : GoodIn wsX8_exit (va_wsS RX8 66 yX8_isMask wsX8_isMask) := goodIn_app (goodIn_of _ (by decide +kernel)) ggX8_exit_X8_isMask
set_option maxRecDepth 20000 in
theorem ggX8_exit_X8_isOn : GoodIn wsX8_exit wsX8_isOn := goodIn_r _ [12, 13, 1, 14, 15, 4, 16, 43, 44, 45, 46, 47, 48, 49, 50, 51, 52, 53, 54, 55, 56, 57, 58, 59, 60, 61, 62, 63, 64, 65, 66, 67, 68, 69, 70, 71] (by decide +kernel) (by decide +kernel)
set_option maxRecDepth 20000 in
theorem gX8_exit_X8_isOn : GoodIn wsX8_exit (wsV RX8 140 RX8 yX8_isOn wsX8_isOn) := goodIn_app (goodIn_of _ (by decide +kernel)) ggX8_exit_X8_isOn
set_option maxRecDepth 20000 in
theorem ggX8_exit_X8_fails : GoodIn wsX8_exit wsX8_fails := goodIn_r _ [20, 21, 43, 44, 45, 46, 47, 48, 49, 50, 51, 52, 53, 54, 55, 56, 57, 58, 59, 60, 61, 62, 63, 64, 65, 66, 67, 68, 69, 70, 71] (by decide +kernel) (by decide +kernel)
set_option maxRecDepth 20000 in
theorem gX8_exit_X8_fails : GoodIn wsX8_exit (wsV RX8 73 RX8 yX8_fails wsX8_fails) := goodIn_app (goodIn_of _ (by decide +kernel)) ggX8_exit_X8_fails
set_option maxRecDepth 20000 in
theorem ggX8_exit_X8_isNext : GoodIn wsX8_exit wsX8_isNext := goodIn_r _ [25, 26, 27, 28, 43, 44, 45, 46, 47, 48, 49, 50, 51, 52, 53, 54, 55, 56, 57, 58, 59, 60, 61, 62, 63, 64, 65, 66, 67, 68, 69, 70, 71] (by decide +kernel) (by decide +kernel)
set_option maxRecDepth 20000 in
theorem gX8_exit_X8_isNext : GoodIn wsX8_exit (wsV RX8 133 RX8 yX8_isNext wsX8_isNext) := goodIn_app (goodIn_of _ (by decide +kernel)) ggX8_exit_X8_isNext
set_option maxRecDepth 20000 in
theorem ggX8_exit_X8_moved : GoodIn wsX8_exit wsX8_moved := goodIn_r _ [32, 27, 33, 34, 35, 36, 4, 37, 38, 39, 13, 40, 41, 42, 43, 44, 45, 46, 47, 48, 49, 50, 51, 52, 53, 54, 55, 56, 57, 58, 59, 60, 61, 62, 63, 64, 65, 66, 67, 68, 69, 70, 71] (by decide +kernel) (by decide +kernel)
set_option maxRecDepth 20000 in
theorem gX8_exit_X8_moved : GoodIn wsX8_exit (wsV RX8 136 RX8 yX8_moved wsX8_moved) := goodIn_app (goodIn_of _ (by decide +kernel)) ggX8_exit_X8_moved
theorem dX8_exit_0 : decode cX8_exit 0 = .ok (.aload_n 0, 1) := by decide +kernel
theorem dX8_exit_1 : decode cX8_exit 1 = .ok (.iload_n 1, 1) := by decide +kernel
theorem dX8_exit_2 : decode cX8_exit 2 = .ok (.invokestatic 66, 3) := by decide +kernel
theorem dX8_exit_5 : decode cX8_exit 5 = .ok (.ifCond .ne 7, 3) := by decide +kernel
theorem dX8_exit_8 : decode cX8_exit 8 = .ok (.iconst 1, 1) := by decide +kernel
theorem dX8_exit_9 : decode cX8_exit 9 = .ok (.goto 16, 3) := by decide +kernel
theorem dX8_exit_12 : decode cX8_exit 12 = .ok (.aload_n 0, 1) := by decide +kernel
theorem dX8_exit_13 : decode cX8_exit 13 = .ok (.iload_n 1, 1) := by decide +kernel
theorem dX8_exit_14 : decode cX8_exit 14 = .ok (.invokevirtual 140, 3) := by decide +kernel
theorem dX8_exit_17 : decode cX8_exit 17 = .ok (.ifCond .eq 7, 3) := by decide +kernel
theorem dX8_exit_20 : decode cX8_exit 20 = .ok (.iconst 0, 1) := by decide +kernel
theorem dX8_exit_21 : decode cX8_exit 21 = .ok (.goto 4, 3) := by decide +kernel
theorem dX8_exit_24 : decode cX8_exit 24 = .ok (.iconst 2, 1) := by decide +kernel
theorem dX8_exit_25 : decode cX8_exit 25 = .ok (.invokevirtual 73, 3) := by decide +kernel
theorem dX8_exit_28 : decode cX8_exit 28 = .ok (.ifCond .eq 5, 3) := by decide +kernel
theorem dX8_exit_31 : decode cX8_exit 31 = .ok (.iconst 0, 1) := by decide +kernel
theorem dX8_exit_32 : decode cX8_exit 32 = .ok (.ireturn, 1) := by decide +kernel
theorem dX8_exit_33 : decode cX8_exit 33 = .ok (.aload_n 0, 1) := by decide +kernel
theorem dX8_exit_34 : decode cX8_exit 34 = .ok (.dup, 1) := by decide +kernel
theorem dX8_exit_35 : decode cX8_exit 35 = .ok (.getfield 96, 3) := by decide +kernel
theorem dX8_exit_38 : decode cX8_exit 38 = .ok (.iconst 1, 1) := by decide +kernel
theorem dX8_exit_39 : decode cX8_exit 39 = .ok (.iload_n 1, 1) := by decide +kernel
theorem dX8_exit_40 : decode cX8_exit 40 = .ok (.ishl, 1) := by decide +kernel
theorem dX8_exit_41 : decode cX8_exit 41 = .ok (.iconst (-1), 1) := by decide +kernel
theorem dX8_exit_42 : decode cX8_exit 42 = .ok (.ixor, 1) := by decide +kernel
theorem dX8_exit_43 : decode cX8_exit 43 = .ok (.iand, 1) := by decide +kernel
theorem dX8_exit_44 : decode cX8_exit 44 = .ok (.putfield 96, 3) := by decide +kernel
theorem dX8_exit_47 : decode cX8_exit 47 = .ok (.aload_n 0, 1) := by decide +kernel
theorem dX8_exit_48 : decode cX8_exit 48 = .ok (.aload_n 0, 1) := by decide +kernel
theorem dX8_exit_49 : decode cX8_exit 49 = .ok (.iconst 3, 1) := by decide +kernel
theorem dX8_exit_50 : decode cX8_exit 50 = .ok (.iload_n 1, 1) := by decide +kernel
theorem dX8_exit_51 : decode cX8_exit 51 = .ok (.invokevirtual 133, 3) := by decide +kernel
theorem dX8_exit_54 : decode cX8_exit 54 = .ok (.invokevirtual 136, 3) := by decide +kernel
theorem dX8_exit_57 : decode cX8_exit 57 = .ok (.ireturn, 1) := by decide +kernel
set_option maxRecDepth 20000 in
theorem ggX8_tell_X8_isMask : GoodIn wsX8_tell wsX8_isMask := goodIn_r _ [9, 10, 11, 8, 12] (by decide +kernel) (by decide +kernel)
set_option maxRecDepth 20000 in
theorem gX8_tell_X8_isMask : GoodIn wsX8_tell (va_wsS RX8 66 yX8_isMask wsX8_isMask) := goodIn_app (goodIn_of _ (by decide +kernel)) ggX8_tell_X8_isMask
set_option maxRecDepth 20000 in
theorem ggX8_tell_X8_isSecret : GoodIn wsX8_tell wsX8_isSecret := goodIn_r _ [15, 10, 11, 8, 12] (by decide +kernel) (by decide +kernel)
set_option maxRecDepth 20000 in
theorem gX8_tell_X8_isSecret : GoodIn wsX8_tell (va_wsS RX8 70 yX8_isSecret wsX8_isSecret) := goodIn_app (goodIn_of _ (by decide +kernel)) ggX8_tell_X8_isSecret
set_option maxRecDepth 20000 in
theorem ggX8_tell_X8_isOn : GoodIn wsX8_tell wsX8_isOn := goodIn_r _ [19, 20, 21, 22, 23, 8, 24, 70, 71, 72, 73, 74, 75, 76, 77, 78, 79, 80, 81, 82, 83, 84, 85, 86, 87, 88, 89, 90, 91, 92, 93, 94, 95, 96, 97, 98] (by decide +kernel) (by decide +kernel)
set_option maxRecDepth 20000 in
theorem gX8_tell_X8_isOn : GoodIn wsX8_tell (wsV RX8 140 RX8 yX8_isOn wsX8_isOn) := goodIn_app (goodIn_of _ (by decide +kernel)) ggX8_tell_X8_isOn
set_option maxRecDepth 20000 in
theorem ggX8_tell_X8_holds : GoodIn wsX8_tell wsX8_holds := goodIn_r _ [24] (by decide +kernel) (by decide +kernel)
set_option maxRecDepth 20000 in
theorem gX8_tell_X8_holds : GoodIn wsX8_tell (va_wsS RX8 76 yX8_holds wsX8_holds) := goodIn_app (goodIn_of _ (by decide +kernel)) ggX8_tell_X8_holds
set_option maxRecDepth 20000 in
theorem ggX8_tell_X8_fails : GoodIn wsX8_tell wsX8_fails := goodIn_r _ [28, 29, 70, 71, 72, 73, 74, 75, 76, 77, 78, 79, 80, 81, 82, 83, 84, 85, 86, 87, 88, 89, 90, 91, 92, 93, 94, 95, 96, 97, 98] (by decide +kernel) (by decide +kernel)
set_option maxRecDepth 20000 in
theorem gX8_tell_X8_fails : GoodIn wsX8_tell (wsV RX8 73 RX8 yX8_fails wsX8_fails) := goodIn_app (goodIn_of _ (by decide +kernel)) ggX8_tell_X8_fails
set_option maxRecDepth 20000 in
theorem ggX8_tell_X8_isNext : GoodIn wsX8_tell wsX8_isNext := goodIn_r _ [33, 34, 4, 35, 70, 71, 72, 73, 74, 75, 76, 77, 78, 79, 80, 81, 82, 83, 84, 85, 86, 87, 88, 89, 90, 91, 92, 93, 94, 95, 96, 97, 98] (by decide +kernel) (by decide +kernel)
set_option maxRecDepth 20000 in
theorem gX8_tell_X8_isNext : GoodIn wsX8_tell (wsV RX8 133 RX8 yX8_isNext wsX8_isNext) := goodIn_app (goodIn_of _ (by decide +kernel)) ggX8_tell_X8_isNext
set_option maxRecDepth 20000 in
theorem ggX8_tell_X8_canClose : GoodIn wsX8_tell wsX8_canClose := goodIn_r _ [39, 40, 1, 41, 42, 43, 34, 44, 35, 3, 22, 23, 8, 24, 45, 46, 47, 48, 5, 2, 49, 50, 51, 52, 53, 54, 55, 56, 70, 71, 72, 73, 74, 75, 76, 77, 78, 79, 80, 81, 82, 83, 84, 85, 86, 87, 88, 89, 90, 91, 92, 93, 94, 95, 96, 97, 98] (by decide +kernel) (by decide +kernel)
set_option maxRecDepth 20000 in
theorem gX8_tell_X8_canClose : GoodIn wsX8_tell (wsV RX8 143 RX8 yX8_canClose wsX8_canClose) := goodIn_app (goodIn_of _ (by decide +kernel)) ggX8_tell_X8_canClose
set_option maxRecDepth 20000 in
theorem ggX8_tell_X8_moved : GoodIn wsX8_tell wsX8_moved := goodIn_r _ [60, 4, 61, 62, 63, 64, 8, 65, 66, 43, 20, 67, 68, 69, 70, 71, 72, 73, 74, 75, 76, 77, 78, 79, 80, 81, 82, 83, 84, 85, 86, 87, 88, 89, 90, 91, 92, 93, 94, 95, 96, 97, 98] (by decide +kernel) (by decide +kernel)
set_option maxRecDepth 20000 in
theorem gX8_tell_X8_moved : GoodIn wsX8_tell (wsV RX8 136 RX8 yX8_moved wsX8_moved) := goodIn_app (goodIn_of _ (by decide +kernel)) ggX8_tell_X8_moved
theorem dX8_tell_0 : decode cX8_tell 0 = .ok (.iload_n 1, 1) := by decide +kernel
theorem dX8_tell_1 : decode cX8_tell 1 = .ok (.invokestatic 66, 3) := by decide +kernel
theorem dX8_tell_4 : decode cX8_tell 4 = .ok (.ifCond .eq 21, 3) := by decide +kernel
theorem dX8_tell_7 : decode cX8_tell 7 = .ok (.iload_n 2, 1) := by decide +kernel
theorem dX8_tell_8 : decode cX8_tell 8 = .ok (.invokestatic 66, 3) := by decide +kernel
theorem dX8_tell_11 : decode cX8_tell 11 = .ok (.ifCond .eq 14, 3) := by decide +kernel
theorem dX8_tell_14 : decode cX8_tell 14 = .ok (.iload_n 3, 1) := by decide +kernel
theorem dX8_tell_15 : decode cX8_tell 15 = .ok (.invokestatic 70, 3) := by decide +kernel
theorem dX8_tell_18 : decode cX8_tell 18 = .ok (.ifCond .eq 7, 3) := by decide +kernel
theorem dX8_tell_21 : decode cX8_tell 21 = .ok (.iconst 1, 1) := by decide +kernel
theorem dX8_tell_22 : decode cX8_tell 22 = .ok (.goto 4, 3) := by decide +kernel
theorem dX8_tell_25 : decode cX8_tell 25 = .ok (.iconst 0, 1) := by decide +kernel
theorem dX8_tell_26 : decode cX8_tell 26 = .ok (.istore 4, 2) := by decide +kernel
theorem dX8_tell_28 : decode cX8_tell 28 = .ok (.iload 4, 2) := by decide +kernel
theorem dX8_tell_30 : decode cX8_tell 30 = .ok (.ifCond .eq 47, 3) := by decide +kernel
theorem dX8_tell_33 : decode cX8_tell 33 = .ok (.aload_n 0, 1) := by decide +kernel
theorem dX8_tell_34 : decode cX8_tell 34 = .ok (.iload_n 1, 1) := by decide +kernel
theorem dX8_tell_35 : decode cX8_tell 35 = .ok (.invokevirtual 140, 3) := by decide +kernel
theorem dX8_tell_38 : decode cX8_tell 38 = .ok (.ifCond .eq 39, 3) := by decide +kernel
theorem dX8_tell_41 : decode cX8_tell 41 = .ok (.aload_n 0, 1) := by decide +kernel
theorem dX8_tell_42 : decode cX8_tell 42 = .ok (.iload_n 2, 1) := by decide +kernel
theorem dX8_tell_43 : decode cX8_tell 43 = .ok (.invokevirtual 140, 3) := by decide +kernel
theorem dX8_tell_46 : decode cX8_tell 46 = .ok (.ifCond .eq 31, 3) := by decide +kernel
theorem dX8_tell_49 : decode cX8_tell 49 = .ok (.aload_n 0, 1) := by decide +kernel
theorem dX8_tell_50 : decode cX8_tell 50 = .ok (.getfield 47, 3) := by decide +kernel
theorem dX8_tell_53 : decode cX8_tell 53 = .ok (.iload_n 3, 1) := by decide +kernel
theorem dX8_tell_54 : decode cX8_tell 54 = .ok (.iaload, 1) := by decide +kernel
theorem dX8_tell_55 : decode cX8_tell 55 = .ok (.iload_n 1, 1) := by decide +kernel
theorem dX8_tell_56 : decode cX8_tell 56 = .ok (.invokestatic 76, 3) := by decide +kernel
theorem dX8_tell_59 : decode cX8_tell 59 = .ok (.ifCond .eq 18, 3) := by decide +kernel
theorem dX8_tell_62 : decode cX8_tell 62 = .ok (.aload_n 0, 1) := by decide +kernel
theorem dX8_tell_63 : decode cX8_tell 63 = .ok (.getfield 99, 3) := by decide +kernel
theorem dX8_tell_66 : decode cX8_tell 66 = .ok (.iload_n 3, 1) := by decide +kernel
theorem dX8_tell_67 : decode cX8_tell 67 = .ok (.invokestatic 76, 3) := by decide +kernel
theorem dX8_tell_70 : decode cX8_tell 70 = .ok (.ifCond .ne 7, 3) := by decide +kernel
theorem dX8_tell_73 : decode cX8_tell 73 = .ok (.iconst 1, 1) := by decide +kernel
theorem dX8_tell_74 : decode cX8_tell 74 = .ok (.goto 4, 3) := by decide +kernel
theorem dX8_tell_77 : decode cX8_tell 77 = .ok (.iconst 0, 1) := by decide +kernel
theorem dX8_tell_78 : decode cX8_tell 78 = .ok (.istore 5, 2) := by decide +kernel
theorem dX8_tell_80 : decode cX8_tell 80 = .ok (.aload_n 0, 1) := by decide +kernel
theorem dX8_tell_81 : decode cX8_tell 81 = .ok (.iload 4, 2) := by decide +kernel
theorem dX8_tell_83 : decode cX8_tell 83 = .ok (.ifCond .ne 7, 3) := by decide +kernel
theorem dX8_tell_86 : decode cX8_tell 86 = .ok (.iconst 1, 1) := by decide +kernel
theorem dX8_tell_87 : decode cX8_tell 87 = .ok (.goto 22, 3) := by decide +kernel
theorem dX8_tell_90 : decode cX8_tell 90 = .ok (.iload_n 1, 1) := by decide +kernel
theorem dX8_tell_91 : decode cX8_tell 91 = .ok (.iload_n 2, 1) := by decide +kernel
theorem dX8_tell_92 : decode cX8_tell 92 = .ok (.if_icmp .ne 7, 3) := by decide +kernel
theorem dX8_tell_95 : decode cX8_tell 95 = .ok (.iconst 2, 1) := by decide +kernel
theorem dX8_tell_96 : decode cX8_tell 96 = .ok (.goto 13, 3) := by decide +kernel
theorem dX8_tell_99 : decode cX8_tell 99 = .ok (.iload 5, 2) := by decide +kernel
theorem dX8_tell_101 : decode cX8_tell 101 = .ok (.ifCond .eq 7, 3) := by decide +kernel
theorem dX8_tell_104 : decode cX8_tell 104 = .ok (.iconst 0, 1) := by decide +kernel
theorem dX8_tell_105 : decode cX8_tell 105 = .ok (.goto 4, 3) := by decide +kernel
theorem dX8_tell_108 : decode cX8_tell 108 = .ok (.iconst 3, 1) := by decide +kernel
theorem dX8_tell_109 : decode cX8_tell 109 = .ok (.invokevirtual 73, 3) := by decide +kernel
theorem dX8_tell_112 : decode cX8_tell 112 = .ok (.ifCond .eq 5, 3) := by decide +kernel
theorem dX8_tell_115 : decode cX8_tell 115 = .ok (.iconst 0, 1) := by decide +kernel
theorem dX8_tell_116 : decode cX8_tell 116 = .ok (.ireturn, 1) := by decide +kernel
theorem dX8_tell_117 : decode cX8_tell 117 = .ok (.aload_n 0, 1) := by decide +kernel
theorem dX8_tell_118 : decode cX8_tell 118 = .ok (.iconst 0, 1) := by decide +kernel
theorem dX8_tell_119 : decode cX8_tell 119 = .ok (.iload_n 1, 1) := by decide +kernel
theorem dX8_tell_120 : decode cX8_tell 120 = .ok (.invokevirtual 133, 3) := by decide +kernel
theorem dX8_tell_123 : decode cX8_tell 123 = .ok (.ifCond .eq 46, 3) := by decide +kernel
theorem dX8_tell_126 : decode cX8_tell 126 = .ok (.aload_n 0, 1) := by decide +kernel
theorem dX8_tell_127 : decode cX8_tell 127 = .ok (.getfield 22, 3) := by decide +kernel
theorem dX8_tell_130 : decode cX8_tell 130 = .ok (.aload_n 0, 1) := by decide +kernel
theorem dX8_tell_131 : decode cX8_tell 131 = .ok (.getfield 43, 3) := by decide +kernel
theorem dX8_tell_134 : decode cX8_tell 134 = .ok (.iaload, 1) := by decide +kernel
theorem dX8_tell_135 : decode cX8_tell 135 = .ok (.iload_n 2, 1) := by decide +kernel
theorem dX8_tell_136 : decode cX8_tell 136 = .ok (.if_icmp .ne 33, 3) := by decide +kernel
theorem dX8_tell_139 : decode cX8_tell 139 = .ok (.aload_n 0, 1) := by decide +kernel
theorem dX8_tell_140 : decode cX8_tell 140 = .ok (.getfield 25, 3) := by decide +kernel
theorem dX8_tell_143 : decode cX8_tell 143 = .ok (.aload_n 0, 1) := by decide +kernel
theorem dX8_tell_144 : decode cX8_tell 144 = .ok (.getfield 43, 3) := by decide +kernel
theorem dX8_tell_147 : decode cX8_tell 147 = .ok (.iaload, 1) := by decide +kernel
theorem dX8_tell_148 : decode cX8_tell 148 = .ok (.iload_n 3, 1) := by decide +kernel
theorem dX8_tell_149 : decode cX8_tell 149 = .ok (.if_icmp .ne 20, 3) := by decide +kernel
theorem dX8_tell_152 : decode cX8_tell 152 = .ok (.aload_n 0, 1) := by decide +kernel
theorem dX8_tell_153 : decode cX8_tell 153 = .ok (.getfield 47, 3) := by decide +kernel
theorem dX8_tell_156 : decode cX8_tell 156 = .ok (.iload_n 3, 1) := by decide +kernel
theorem dX8_tell_157 : decode cX8_tell 157 = .ok (.iaload, 1) := by decide +kernel
theorem dX8_tell_158 : decode cX8_tell 158 = .ok (.iload_n 2, 1) := by decide +kernel
theorem dX8_tell_159 : decode cX8_tell 159 = .ok (.invokestatic 76, 3) := by decide +kernel
theorem dX8_tell_162 : decode cX8_tell 162 = .ok (.ifCond .ne 7, 3) := by decide +kernel
theorem dX8_tell_165 : decode cX8_tell 165 = .ok (.iconst 1, 1) := by decide +kernel
theorem dX8_tell_166 : decode cX8_tell 166 = .ok (.goto 4, 3) := by decide +kernel
theorem dX8_tell_169 : decode cX8_tell 169 = .ok (.iconst 0, 1) := by decide +kernel
theorem dX8_tell_170 : decode cX8_tell 170 = .ok (.istore 6, 2) := by decide +kernel
theorem dX8_tell_172 : decode cX8_tell 172 = .ok (.aload_n 0, 1) := by decide +kernel
theorem dX8_tell_173 : decode cX8_tell 173 = .ok (.aload_n 0, 1) := by decide +kernel
theorem dX8_tell_174 : decode cX8_tell 174 = .ok (.getfield 43, 3) := by decide +kernel
theorem dX8_tell_177 : decode cX8_tell 177 = .ok (.invokevirtual 143, 3) := by decide +kernel
theorem dX8_tell_180 : decode cX8_tell 180 = .ok (.istore 7, 2) := by decide +kernel
theorem dX8_tell_182 : decode cX8_tell 182 = .ok (.aload_n 0, 1) := by decide +kernel
theorem dX8_tell_183 : decode cX8_tell 183 = .ok (.getfield 47, 3) := by decide +kernel
theorem dX8_tell_186 : decode cX8_tell 186 = .ok (.iload_n 3, 1) := by decide +kernel
theorem dX8_tell_187 : decode cX8_tell 187 = .ok (.iaload, 1) := by decide +kernel
theorem dX8_tell_188 : decode cX8_tell 188 = .ok (.istore 8, 2) := by decide +kernel
theorem dX8_tell_190 : decode cX8_tell 190 = .ok (.aload_n 0, 1) := by decide +kernel
theorem dX8_tell_191 : decode cX8_tell 191 = .ok (.getfield 47, 3) := by decide +kernel
theorem dX8_tell_194 : decode cX8_tell 194 = .ok (.iload_n 3, 1) := by decide +kernel
theorem dX8_tell_195 : decode cX8_tell 195 = .ok (.dup2, 1) := by decide +kernel
theorem dX8_tell_196 : decode cX8_tell 196 = .ok (.iaload, 1) := by decide +kernel
theorem dX8_tell_197 : decode cX8_tell 197 = .ok (.iconst 1, 1) := by decide +kernel
theorem dX8_tell_198 : decode cX8_tell 198 = .ok (.iload_n 2, 1) := by decide +kernel
theorem dX8_tell_199 : decode cX8_tell 199 = .ok (.ishl, 1) := by decide +kernel
theorem dX8_tell_200 : decode cX8_tell 200 = .ok (.ior, 1) := by decide +kernel
theorem dX8_tell_201 : decode cX8_tell 201 = .ok (.iastore, 1) := by decide +kernel
theorem dX8_tell_202 : decode cX8_tell 202 = .ok (.iload 7, 2) := by decide +kernel
theorem dX8_tell_204 : decode cX8_tell 204 = .ok (.ifCond .eq 35, 3) := by decide +kernel
theorem dX8_tell_207 : decode cX8_tell 207 = .ok (.aload_n 0, 1) := by decide +kernel
theorem dX8_tell_208 : decode cX8_tell 208 = .ok (.aload_n 0, 1) := by decide +kernel
theorem dX8_tell_209 : decode cX8_tell 209 = .ok (.getfield 43, 3) := by decide +kernel
theorem dX8_tell_212 : decode cX8_tell 212 = .ok (.iload 6, 2) := by decide +kernel
theorem dX8_tell_214 : decode cX8_tell 214 = .ok (.ifCond .eq 7, 3) := by decide +kernel
theorem dX8_tell_217 : decode cX8_tell 217 = .ok (.iconst 1, 1) := by decide +kernel
theorem dX8_tell_218 : decode cX8_tell 218 = .ok (.goto 4, 3) := by decide +kernel
theorem dX8_tell_221 : decode cX8_tell 221 = .ok (.iconst 0, 1) := by decide +kernel
theorem dX8_tell_222 : decode cX8_tell 222 = .ok (.iadd, 1) := by decide +kernel
theorem dX8_tell_223 : decode cX8_tell 223 = .ok (.invokevirtual 143, 3) := by decide +kernel
theorem dX8_tell_226 : decode cX8_tell 226 = .ok (.ifCond .ne 13, 3) := by decide +kernel
theorem dX8_tell_229 : decode cX8_tell 229 = .ok (.aload_n 0, 1) := by decide +kernel
theorem dX8_tell_230 : decode cX8_tell 230 = .ok (.getfield 47, 3) := by decide +kernel
theorem dX8_tell_233 : decode cX8_tell 233 = .ok (.iload_n 3, 1) := by decide +kernel
theorem dX8_tell_234 : decode cX8_tell 234 = .ok (.iload 8, 2) := by decide +kernel
theorem dX8_tell_236 : decode cX8_tell 236 = .ok (.iastore, 1) := by decide +kernel
theorem dX8_tell_237 : decode cX8_tell 237 = .ok (.iconst 0, 1) := by decide +kernel
theorem dX8_tell_238 : decode cX8_tell 238 = .ok (.ireturn, 1) := by decide +kernel
theorem dX8_tell_239 : decode cX8_tell 239 = .ok (.aload_n 0, 1) := by decide +kernel
theorem dX8_tell_240 : decode cX8_tell 240 = .ok (.iload 6, 2) := by decide +kernel
theorem dX8_tell_242 : decode cX8_tell 242 = .ok (.invokevirtual 136, 3) := by decide +kernel
theorem dX8_tell_245 : decode cX8_tell 245 = .ok (.ireturn, 1) := by decide +kernel
set_option maxRecDepth 20000 in
theorem ggX8_give_X8_isMask : GoodIn wsX8_give wsX8_isMask := goodIn_r _ [8, 9, 10, 7, 11] (by decide +kernel) (by decide +kernel)
set_option maxRecDepth 20000 in
theorem gX8_give_X8_isMask : GoodIn wsX8_give (va_wsS RX8 66 yX8_isMask wsX8_isMask) := goodIn_app (goodIn_of _ (by decide +kernel)) ggX8_give_X8_isMask
set_option maxRecDepth 20000 in
theorem ggX8_give_X8_isProp : GoodIn wsX8_give wsX8_isProp := goodIn_r _ [14, 9, 10, 7, 11] (by decide +kernel) (by decide +kernel)
set_option maxRecDepth 20000 in
theorem gX8_give_X8_isProp : GoodIn wsX8_give (va_wsS RX8 87 yX8_isProp wsX8_isProp) := goodIn_app (goodIn_of _ (by decide +kernel)) ggX8_give_X8_isProp
set_option maxRecDepth 20000 in
theorem ggX8_give_X8_isOn : GoodIn wsX8_give wsX8_isOn := goodIn_r _ [18, 19, 20, 21, 22, 7, 23, 49, 50, 51, 52, 53, 54, 55, 56, 57, 58, 59, 60, 61, 62, 63, 64, 65, 66, 67, 68, 69, 70, 71, 72, 73, 74, 75, 76, 77] (by decide +kernel) (by decide +kernel)
set_option maxRecDepth 20000 in
theorem gX8_give_X8_isOn : GoodIn wsX8_give (wsV RX8 140 RX8 yX8_isOn wsX8_isOn) := goodIn_app (goodIn_of _ (by decide +kernel)) ggX8_give_X8_isOn
set_option maxRecDepth 20000 in
theorem ggX8_give_X8_fails : GoodIn wsX8_give wsX8_fails := goodIn_r _ [27, 28, 49, 50, 51, 52, 53, 54, 55, 56, 57, 58, 59, 60, 61, 62, 63, 64, 65, 66, 67, 68, 69, 70, 71, 72, 73, 74, 75, 76, 77] (by decide +kernel) (by decide +kernel)
set_option maxRecDepth 20000 in
theorem gX8_give_X8_fails : GoodIn wsX8_give (wsV RX8 73 RX8 yX8_fails wsX8_fails) := goodIn_app (goodIn_of _ (by decide +kernel)) ggX8_give_X8_fails
set_option maxRecDepth 20000 in
theorem ggX8_give_X8_isNext : GoodIn wsX8_give wsX8_isNext := goodIn_r _ [32, 33, 3, 34, 49, 50, 51, 52, 53, 54, 55, 56, 57, 58, 59, 60, 61, 62, 63, 64, 65, 66, 67, 68, 69, 70, 71, 72, 73, 74, 75, 76, 77] (by decide +kernel) (by decide +kernel)
set_option maxRecDepth 20000 in
theorem gX8_give_X8_isNext : GoodIn wsX8_give (wsV RX8 133 RX8 yX8_isNext wsX8_isNext) := goodIn_app (goodIn_of _ (by decide +kernel)) ggX8_give_X8_isNext
set_option maxRecDepth 20000 in
theorem ggX8_give_X8_moved : GoodIn wsX8_give wsX8_moved := goodIn_r _ [38, 3, 39, 40, 41, 42, 7, 43, 44, 45, 19, 46, 47, 48, 49, 50, 51, 52, 53, 54, 55, 56, 57, 58, 59, 60, 61, 62, 63, 64, 65, 66, 67, 68, 69, 70, 71, 72, 73, 74, 75, 76, 77] (by decide +kernel) (by decide +kernel)
set_option maxRecDepth 20000 in
theorem gX8_give_X8_moved : GoodIn wsX8_give (wsV RX8 136 RX8 yX8_moved wsX8_moved) := goodIn_app (goodIn_of _ (by decide +kernel)) ggX8_give_X8_moved
theorem dX8_give_0 : decode cX8_give 0 = .ok (.iload_n 1, 1) := by decide +kernel
theorem dX8_give_1 : decode cX8_give 1 = .ok (.invokestatic 66, 3) := by decide +kernel
theorem dX8_give_4 : decode cX8_give 4 = .ok (.ifCond .eq 21, 3) := by decide +kernel
theorem dX8_give_7 : decode cX8_give 7 = .ok (.iload_n 2, 1) := by decide +kernel
theorem dX8_give_8 : decode cX8_give 8 = .ok (.invokestatic 66, 3) := by decide +kernel
theorem dX8_give_11 : decode cX8_give 11 = .ok (.ifCond .eq 14, 3) := by decide +kernel
theorem dX8_give_14 : decode cX8_give 14 = .ok (.iload_n 3, 1) := by decide +kernel
theorem dX8_give_15 : decode cX8_give 15 = .ok (.invokestatic 87, 3) := by decide +kernel
theorem dX8_give_18 : decode cX8_give 18 = .ok (.ifCond .eq 7, 3) := by decide +kernel
theorem dX8_give_21 : decode cX8_give 21 = .ok (.iconst 1, 1) := by decide +kernel
theorem dX8_give_22 : decode cX8_give 22 = .ok (.goto 4, 3) := by decide +kernel
theorem dX8_give_25 : decode cX8_give 25 = .ok (.iconst 0, 1) := by decide +kernel
theorem dX8_give_26 : decode cX8_give 26 = .ok (.istore 4, 2) := by decide +kernel
theorem dX8_give_28 : decode cX8_give 28 = .ok (.iload 4, 2) := by decide +kernel
theorem dX8_give_30 : decode cX8_give 30 = .ok (.ifCond .eq 33, 3) := by decide +kernel
theorem dX8_give_33 : decode cX8_give 33 = .ok (.aload_n 0, 1) := by decide +kernel
theorem dX8_give_34 : decode cX8_give 34 = .ok (.iload_n 1, 1) := by decide +kernel
theorem dX8_give_35 : decode cX8_give 35 = .ok (.invokevirtual 140, 3) := by decide +kernel
theorem dX8_give_38 : decode cX8_give 38 = .ok (.ifCond .eq 25, 3) := by decide +kernel
theorem dX8_give_41 : decode cX8_give 41 = .ok (.aload_n 0, 1) := by decide +kernel
theorem dX8_give_42 : decode cX8_give 42 = .ok (.iload_n 2, 1) := by decide +kernel
theorem dX8_give_43 : decode cX8_give 43 = .ok (.invokevirtual 140, 3) := by decide +kernel
theorem dX8_give_46 : decode cX8_give 46 = .ok (.ifCond .eq 17, 3) := by decide +kernel
theorem dX8_give_49 : decode cX8_give 49 = .ok (.aload_n 0, 1) := by decide +kernel
theorem dX8_give_50 : decode cX8_give 50 = .ok (.getfield 50, 3) := by decide +kernel
theorem dX8_give_53 : decode cX8_give 53 = .ok (.iload_n 3, 1) := by decide +kernel
theorem dX8_give_54 : decode cX8_give 54 = .ok (.iaload, 1) := by decide +kernel
theorem dX8_give_55 : decode cX8_give 55 = .ok (.iload_n 1, 1) := by decide +kernel
theorem dX8_give_56 : decode cX8_give 56 = .ok (.if_icmp .ne 7, 3) := by decide +kernel
theorem dX8_give_59 : decode cX8_give 59 = .ok (.iconst 1, 1) := by decide +kernel
theorem dX8_give_60 : decode cX8_give 60 = .ok (.goto 4, 3) := by decide +kernel
theorem dX8_give_63 : decode cX8_give 63 = .ok (.iconst 0, 1) := by decide +kernel
theorem dX8_give_64 : decode cX8_give 64 = .ok (.istore 5, 2) := by decide +kernel
theorem dX8_give_66 : decode cX8_give 66 = .ok (.aload_n 0, 1) := by decide +kernel
theorem dX8_give_67 : decode cX8_give 67 = .ok (.iload 4, 2) := by decide +kernel
theorem dX8_give_69 : decode cX8_give 69 = .ok (.ifCond .ne 7, 3) := by decide +kernel
theorem dX8_give_72 : decode cX8_give 72 = .ok (.iconst 1, 1) := by decide +kernel
theorem dX8_give_73 : decode cX8_give 73 = .ok (.goto 22, 3) := by decide +kernel
theorem dX8_give_76 : decode cX8_give 76 = .ok (.iload_n 1, 1) := by decide +kernel
theorem dX8_give_77 : decode cX8_give 77 = .ok (.iload_n 2, 1) := by decide +kernel
theorem dX8_give_78 : decode cX8_give 78 = .ok (.if_icmp .ne 7, 3) := by decide +kernel
theorem dX8_give_81 : decode cX8_give 81 = .ok (.iconst 2, 1) := by decide +kernel
theorem dX8_give_82 : decode cX8_give 82 = .ok (.goto 13, 3) := by decide +kernel
theorem dX8_give_85 : decode cX8_give 85 = .ok (.iload 5, 2) := by decide +kernel
theorem dX8_give_87 : decode cX8_give 87 = .ok (.ifCond .eq 7, 3) := by decide +kernel
theorem dX8_give_90 : decode cX8_give 90 = .ok (.iconst 0, 1) := by decide +kernel
theorem dX8_give_91 : decode cX8_give 91 = .ok (.goto 4, 3) := by decide +kernel
theorem dX8_give_94 : decode cX8_give 94 = .ok (.iconst 3, 1) := by decide +kernel
theorem dX8_give_95 : decode cX8_give 95 = .ok (.invokevirtual 73, 3) := by decide +kernel
theorem dX8_give_98 : decode cX8_give 98 = .ok (.ifCond .eq 5, 3) := by decide +kernel
theorem dX8_give_101 : decode cX8_give 101 = .ok (.iconst 0, 1) := by decide +kernel
theorem dX8_give_102 : decode cX8_give 102 = .ok (.ireturn, 1) := by decide +kernel
theorem dX8_give_103 : decode cX8_give 103 = .ok (.aload_n 0, 1) := by decide +kernel
theorem dX8_give_104 : decode cX8_give 104 = .ok (.getfield 50, 3) := by decide +kernel
theorem dX8_give_107 : decode cX8_give 107 = .ok (.iload_n 3, 1) := by decide +kernel
theorem dX8_give_108 : decode cX8_give 108 = .ok (.iload_n 2, 1) := by decide +kernel
theorem dX8_give_109 : decode cX8_give 109 = .ok (.iastore, 1) := by decide +kernel
theorem dX8_give_110 : decode cX8_give 110 = .ok (.aload_n 0, 1) := by decide +kernel
theorem dX8_give_111 : decode cX8_give 111 = .ok (.aload_n 0, 1) := by decide +kernel
theorem dX8_give_112 : decode cX8_give 112 = .ok (.iconst 1, 1) := by decide +kernel
theorem dX8_give_113 : decode cX8_give 113 = .ok (.iload_n 1, 1) := by decide +kernel
theorem dX8_give_114 : decode cX8_give 114 = .ok (.invokevirtual 133, 3) := by decide +kernel
theorem dX8_give_117 : decode cX8_give 117 = .ok (.ifCond .eq 33, 3) := by decide +kernel
theorem dX8_give_120 : decode cX8_give 120 = .ok (.aload_n 0, 1) := by decide +kernel
theorem dX8_give_121 : decode cX8_give 121 = .ok (.getfield 22, 3) := by decide +kernel
theorem dX8_give_124 : decode cX8_give 124 = .ok (.aload_n 0, 1) := by decide +kernel
theorem dX8_give_125 : decode cX8_give 125 = .ok (.getfield 43, 3) := by decide +kernel
theorem dX8_give_128 : decode cX8_give 128 = .ok (.iaload, 1) := by decide +kernel
theorem dX8_give_129 : decode cX8_give 129 = .ok (.iload_n 2, 1) := by decide +kernel
theorem dX8_give_130 : decode cX8_give 130 = .ok (.if_icmp .ne 20, 3) := by decide +kernel
theorem dX8_give_133 : decode cX8_give 133 = .ok (.aload_n 0, 1) := by decide +kernel
theorem dX8_give_134 : decode cX8_give 134 = .ok (.getfield 25, 3) := by decide +kernel
theorem dX8_give_137 : decode cX8_give 137 = .ok (.aload_n 0, 1) := by decide +kernel
theorem dX8_give_138 : decode cX8_give 138 = .ok (.getfield 43, 3) := by decide +kernel
theorem dX8_give_141 : decode cX8_give 141 = .ok (.iaload, 1) := by decide +kernel
theorem dX8_give_142 : decode cX8_give 142 = .ok (.iload_n 3, 1) := by decide +kernel
theorem dX8_give_143 : decode cX8_give 143 = .ok (.if_icmp .ne 7, 3) := by decide +kernel
theorem dX8_give_146 : decode cX8_give 146 = .ok (.iconst 1, 1) := by decide +kernel
theorem dX8_give_147 : decode cX8_give 147 = .ok (.goto 4, 3) := by decide +kernel
theorem dX8_give_150 : decode cX8_give 150 = .ok (.iconst 0, 1) := by decide +kernel
theorem dX8_give_151 : decode cX8_give 151 = .ok (.invokevirtual 136, 3) := by decide +kernel
theorem dX8_give_154 : decode cX8_give 154 = .ok (.ireturn, 1) := by decide +kernel
set_option maxRecDepth 20000 in
theorem ggX8_take_X8_isMask : GoodIn wsX8_take wsX8_isMask := goodIn_r _ [5, 6, 7, 4, 8] (by decide +kernel) (by decide +kernel)
set_option maxRecDepth 20000 in
theorem gX8_take_X8_isMask : GoodIn wsX8_take (va_wsS RX8 66 yX8_isMask wsX8_isMask) := goodIn_app (goodIn_of _ (by decide +kernel)) ggX8_take_X8_isMask
set_option maxRecDepth 20000 in
theorem ggX8_take_X8_isProp : GoodIn wsX8_take wsX8_isProp := goodIn_r _ [11, 6, 7, 4, 8] (by decide +kernel) (by decide +kernel)
set_option maxRecDepth 20000 in
theorem gX8_take_X8_isProp : GoodIn wsX8_take (va_wsS RX8 87 yX8_isProp wsX8_isProp) := goodIn_app (goodIn_of _ (by decide +kernel)) ggX8_take_X8_isProp
set_option maxRecDepth 20000 in
theorem ggX8_take_X8_isOn : GoodIn wsX8_take wsX8_isOn := goodIn_r _ [15, 16, 17, 18, 19, 4, 20, 41, 42, 43, 44, 45, 46, 47, 48, 49, 50, 51, 52, 53, 54, 55, 56, 57, 58, 59, 60, 61, 62, 63, 64, 65, 66, 67, 68, 69] (by decide +kernel) (by decide +kernel)
set_option maxRecDepth 20000 in
theorem gX8_take_X8_isOn : GoodIn wsX8_take (wsV RX8 140 RX8 yX8_isOn wsX8_isOn) := goodIn_app (goodIn_of _ (by decide +kernel)) ggX8_take_X8_isOn
set_option maxRecDepth 20000 in
theorem ggX8_take_X8_fails : GoodIn wsX8_take wsX8_fails := goodIn_r _ [24, 25, 41, 42, 43, 44, 45, 46, 47, 48, 49, 50, 51, 52, 53, 54, 55, 56, 57, 58, 59, 60, 61, 62, 63, 64, 65, 66, 67, 68, 69] (by decide +kernel) (by decide +kernel)
set_option maxRecDepth 20000 in
theorem gX8_take_X8_fails : GoodIn wsX8_take (wsV RX8 73 RX8 yX8_fails wsX8_fails) := goodIn_app (goodIn_of _ (by decide +kernel)) ggX8_take_X8_fails
set_option maxRecDepth 20000 in
theorem ggX8_take_X8_moved : GoodIn wsX8_take wsX8_moved := goodIn_r _ [29, 30, 31, 32, 33, 34, 4, 35, 36, 37, 16, 38, 39, 40, 41, 42, 43, 44, 45, 46, 47, 48, 49, 50, 51, 52, 53, 54, 55, 56, 57, 58, 59, 60, 61, 62, 63, 64, 65, 66, 67, 68, 69] (by decide +kernel) (by decide +kernel)
set_option maxRecDepth 20000 in
theorem gX8_take_X8_moved : GoodIn wsX8_take (wsV RX8 136 RX8 yX8_moved wsX8_moved) := goodIn_app (goodIn_of _ (by decide +kernel)) ggX8_take_X8_moved
theorem dX8_take_0 : decode cX8_take 0 = .ok (.iload_n 1, 1) := by decide +kernel
theorem dX8_take_1 : decode cX8_take 1 = .ok (.invokestatic 66, 3) := by decide +kernel
theorem dX8_take_4 : decode cX8_take 4 = .ok (.ifCond .eq 14, 3) := by decide +kernel
theorem dX8_take_7 : decode cX8_take 7 = .ok (.iload_n 2, 1) := by decide +kernel
theorem dX8_take_8 : decode cX8_take 8 = .ok (.invokestatic 87, 3) := by decide +kernel
theorem dX8_take_11 : decode cX8_take 11 = .ok (.ifCond .eq 7, 3) := by decide +kernel
theorem dX8_take_14 : decode cX8_take 14 = .ok (.iconst 1, 1) := by decide +kernel
theorem dX8_take_15 : decode cX8_take 15 = .ok (.goto 4, 3) := by decide +kernel
theorem dX8_take_18 : decode cX8_take 18 = .ok (.iconst 0, 1) := by decide +kernel
theorem dX8_take_19 : decode cX8_take 19 = .ok (.istore_n 3, 1) := by decide +kernel
theorem dX8_take_20 : decode cX8_take 20 = .ok (.iload_n 3, 1) := by decide +kernel
theorem dX8_take_21 : decode cX8_take 21 = .ok (.ifCond .eq 25, 3) := by decide +kernel
theorem dX8_take_24 : decode cX8_take 24 = .ok (.aload_n 0, 1) := by decide +kernel
theorem dX8_take_25 : decode cX8_take 25 = .ok (.iload_n 1, 1) := by decide +kernel
theorem dX8_take_26 : decode cX8_take 26 = .ok (.invokevirtual 140, 3) := by decide +kernel
theorem dX8_take_29 : decode cX8_take 29 = .ok (.ifCond .eq 17, 3) := by decide +kernel
theorem dX8_take_32 : decode cX8_take 32 = .ok (.aload_n 0, 1) := by decide +kernel
theorem dX8_take_33 : decode cX8_take 33 = .ok (.getfield 50, 3) := by decide +kernel
theorem dX8_take_36 : decode cX8_take 36 = .ok (.iload_n 2, 1) := by decide +kernel
theorem dX8_take_37 : decode cX8_take 37 = .ok (.iaload, 1) := by decide +kernel
theorem dX8_take_38 : decode cX8_take 38 = .ok (.iconst (-1), 1) := by decide +kernel
theorem dX8_take_39 : decode cX8_take 39 = .ok (.if_icmp .ne 7, 3) := by decide +kernel
theorem dX8_take_42 : decode cX8_take 42 = .ok (.iconst 1, 1) := by decide +kernel
theorem dX8_take_43 : decode cX8_take 43 = .ok (.goto 4, 3) := by decide +kernel
theorem dX8_take_46 : decode cX8_take 46 = .ok (.iconst 0, 1) := by decide +kernel
theorem dX8_take_47 : decode cX8_take 47 = .ok (.istore 4, 2) := by decide +kernel
theorem dX8_take_49 : decode cX8_take 49 = .ok (.aload_n 0, 1) := by decide +kernel
theorem dX8_take_50 : decode cX8_take 50 = .ok (.iload_n 3, 1) := by decide +kernel
theorem dX8_take_51 : decode cX8_take 51 = .ok (.ifCond .ne 7, 3) := by decide +kernel
theorem dX8_take_54 : decode cX8_take 54 = .ok (.iconst 1, 1) := by decide +kernel
theorem dX8_take_55 : decode cX8_take 55 = .ok (.goto 13, 3) := by decide +kernel
theorem dX8_take_58 : decode cX8_take 58 = .ok (.iload 4, 2) := by decide +kernel
theorem dX8_take_60 : decode cX8_take 60 = .ok (.ifCond .eq 7, 3) := by decide +kernel
theorem dX8_take_63 : decode cX8_take 63 = .ok (.iconst 0, 1) := by decide +kernel
theorem dX8_take_64 : decode cX8_take 64 = .ok (.goto 4, 3) := by decide +kernel
theorem dX8_take_67 : decode cX8_take 67 = .ok (.iconst 2, 1) := by decide +kernel
theorem dX8_take_68 : decode cX8_take 68 = .ok (.invokevirtual 73, 3) := by decide +kernel
theorem dX8_take_71 : decode cX8_take 71 = .ok (.ifCond .eq 5, 3) := by decide +kernel
theorem dX8_take_74 : decode cX8_take 74 = .ok (.iconst 0, 1) := by decide +kernel
theorem dX8_take_75 : decode cX8_take 75 = .ok (.ireturn, 1) := by decide +kernel
theorem dX8_take_76 : decode cX8_take 76 = .ok (.aload_n 0, 1) := by decide +kernel
theorem dX8_take_77 : decode cX8_take 77 = .ok (.getfield 50, 3) := by decide +kernel
theorem dX8_take_80 : decode cX8_take 80 = .ok (.iload_n 2, 1) := by decide +kernel
theorem dX8_take_81 : decode cX8_take 81 = .ok (.iload_n 1, 1) := by decide +kernel
theorem dX8_take_82 : decode cX8_take 82 = .ok (.iastore, 1) := by decide +kernel
theorem dX8_take_83 : decode cX8_take 83 = .ok (.aload_n 0, 1) := by decide +kernel
theorem dX8_take_84 : decode cX8_take 84 = .ok (.iconst 0, 1) := by decide +kernel
theorem dX8_take_85 : decode cX8_take 85 = .ok (.invokevirtual 136, 3) := by decide +kernel
theorem dX8_take_88 : decode cX8_take 88 = .ok (.ireturn, 1) := by decide +kernel
set_option maxRecDepth 20000 in
theorem ggX8_greet_X8_isMask : GoodIn wsX8_greet wsX8_isMask := goodIn_r _ [6, 7, 8, 5, 9] (by decide +kernel) (by decide +kernel)
set_option maxRecDepth 20000 in
theorem gX8_greet_X8_isMask : GoodIn wsX8_greet (va_wsS RX8 66 yX8_isMask wsX8_isMask) := goodIn_app (goodIn_of _ (by decide +kernel)) ggX8_greet_X8_isMask
set_option maxRecDepth 20000 in
theorem ggX8_greet_X8_isOn : GoodIn wsX8_greet wsX8_isOn := goodIn_r _ [13, 14, 15, 16, 17, 5, 18, 44, 45, 46, 47, 48, 49, 50, 51, 52, 53, 54, 55, 56, 57, 58, 59, 60, 61, 62, 63, 64, 65, 66, 67, 68, 69, 70, 71, 72] (by decide +kernel) (by decide +kernel)
set_option maxRecDepth 20000 in
theorem gX8_greet_X8_isOn : GoodIn wsX8_greet (wsV RX8 140 RX8 yX8_isOn wsX8_isOn) := goodIn_app (goodIn_of _ (by decide +kernel)) ggX8_greet_X8_isOn
set_option maxRecDepth 20000 in
theorem ggX8_greet_X8_fails : GoodIn wsX8_greet wsX8_fails := goodIn_r _ [22, 23, 44, 45, 46, 47, 48, 49, 50, 51, 52, 53, 54, 55, 56, 57, 58, 59, 60, 61, 62, 63, 64, 65, 66, 67, 68, 69, 70, 71, 72] (by decide +kernel) (by decide +kernel)
set_option maxRecDepth 20000 in
theorem gX8_greet_X8_fails : GoodIn wsX8_greet (wsV RX8 73 RX8 yX8_fails wsX8_fails) := goodIn_app (goodIn_of _ (by decide +kernel)) ggX8_greet_X8_fails
set_option maxRecDepth 20000 in
theorem ggX8_greet_X8_isNext : GoodIn wsX8_greet wsX8_isNext := goodIn_r _ [27, 28, 2, 29, 44, 45, 46, 47, 48, 49, 50, 51, 52, 53, 54, 55, 56, 57, 58, 59, 60, 61, 62, 63, 64, 65, 66, 67, 68, 69, 70, 71, 72] (by decide +kernel) (by decide +kernel)
set_option maxRecDepth 20000 in
theorem gX8_greet_X8_isNext : GoodIn wsX8_greet (wsV RX8 133 RX8 yX8_isNext wsX8_isNext) := goodIn_app (goodIn_of _ (by decide +kernel)) ggX8_greet_X8_isNext
set_option maxRecDepth 20000 in
theorem ggX8_greet_X8_moved : GoodIn wsX8_greet wsX8_moved := goodIn_r _ [33, 2, 34, 35, 36, 37, 5, 38, 39, 40, 14, 41, 42, 43, 44, 45, 46, 47, 48, 49, 50, 51, 52, 53, 54, 55, 56, 57, 58, 59, 60, 61, 62, 63, 64, 65, 66, 67, 68, 69, 70, 71, 72] (by decide +kernel) (by decide +kernel)
set_option maxRecDepth 20000 in
theorem gX8_greet_X8_moved : GoodIn wsX8_greet (wsV RX8 136 RX8 yX8_moved wsX8_moved) := goodIn_app (goodIn_of _ (by decide +kernel)) ggX8_greet_X8_moved
theorem dX8_greet_0 : decode cX8_greet 0 = .ok (.iload_n 1, 1) := by decide +kernel
theorem dX8_greet_1 : decode cX8_greet 1 = .ok (.invokestatic 66, 3) := by decide +kernel
theorem dX8_greet_4 : decode cX8_greet 4 = .ok (.ifCond .eq 14, 3) := by decide +kernel
theorem dX8_greet_7 : decode cX8_greet 7 = .ok (.iload_n 2, 1) := by decide +kernel
theorem dX8_greet_8 : decode cX8_greet 8 = .ok (.invokestatic 66, 3) := by decide +kernel
theorem dX8_greet_11 : decode cX8_greet 11 = .ok (.ifCond .eq 7, 3) := by decide +kernel
theorem dX8_greet_14 : decode cX8_greet 14 = .ok (.iconst 1, 1) := by decide +kernel
theorem dX8_greet_15 : decode cX8_greet 15 = .ok (.goto 4, 3) := by decide +kernel
theorem dX8_greet_18 : decode cX8_greet 18 = .ok (.iconst 0, 1) := by decide +kernel
theorem dX8_greet_19 : decode cX8_greet 19 = .ok (.istore_n 3, 1) := by decide +kernel
theorem dX8_greet_20 : decode cX8_greet 20 = .ok (.iload_n 3, 1) := by decide +kernel
theorem dX8_greet_21 : decode cX8_greet 21 = .ok (.ifCond .eq 23, 3) := by decide +kernel
theorem dX8_greet_24 : decode cX8_greet 24 = .ok (.aload_n 0, 1) := by decide +kernel
theorem dX8_greet_25 : decode cX8_greet 25 = .ok (.iload_n 1, 1) := by decide +kernel
theorem dX8_greet_26 : decode cX8_greet 26 = .ok (.invokevirtual 140, 3) := by decide +kernel
theorem dX8_greet_29 : decode cX8_greet 29 = .ok (.ifCond .eq 15, 3) := by decide +kernel
theorem dX8_greet_32 : decode cX8_greet 32 = .ok (.aload_n 0, 1) := by decide +kernel
theorem dX8_greet_33 : decode cX8_greet 33 = .ok (.iload_n 2, 1) := by decide +kernel
theorem dX8_greet_34 : decode cX8_greet 34 = .ok (.invokevirtual 140, 3) := by decide +kernel
theorem dX8_greet_37 : decode cX8_greet 37 = .ok (.ifCond .eq 7, 3) := by decide +kernel
theorem dX8_greet_40 : decode cX8_greet 40 = .ok (.iconst 1, 1) := by decide +kernel
theorem dX8_greet_41 : decode cX8_greet 41 = .ok (.goto 4, 3) := by decide +kernel
theorem dX8_greet_44 : decode cX8_greet 44 = .ok (.iconst 0, 1) := by decide +kernel
theorem dX8_greet_45 : decode cX8_greet 45 = .ok (.istore 4, 2) := by decide +kernel
theorem dX8_greet_47 : decode cX8_greet 47 = .ok (.aload_n 0, 1) := by decide +kernel
theorem dX8_greet_48 : decode cX8_greet 48 = .ok (.iload_n 3, 1) := by decide +kernel
theorem dX8_greet_49 : decode cX8_greet 49 = .ok (.ifCond .ne 7, 3) := by decide +kernel
theorem dX8_greet_52 : decode cX8_greet 52 = .ok (.iconst 1, 1) := by decide +kernel
theorem dX8_greet_53 : decode cX8_greet 53 = .ok (.goto 22, 3) := by decide +kernel
theorem dX8_greet_56 : decode cX8_greet 56 = .ok (.iload_n 1, 1) := by decide +kernel
theorem dX8_greet_57 : decode cX8_greet 57 = .ok (.iload_n 2, 1) := by decide +kernel
theorem dX8_greet_58 : decode cX8_greet 58 = .ok (.if_icmp .ne 7, 3) := by decide +kernel
theorem dX8_greet_61 : decode cX8_greet 61 = .ok (.iconst 2, 1) := by decide +kernel
theorem dX8_greet_62 : decode cX8_greet 62 = .ok (.goto 13, 3) := by decide +kernel
theorem dX8_greet_65 : decode cX8_greet 65 = .ok (.iload 4, 2) := by decide +kernel
theorem dX8_greet_67 : decode cX8_greet 67 = .ok (.ifCond .eq 7, 3) := by decide +kernel
theorem dX8_greet_70 : decode cX8_greet 70 = .ok (.iconst 0, 1) := by decide +kernel
theorem dX8_greet_71 : decode cX8_greet 71 = .ok (.goto 4, 3) := by decide +kernel
theorem dX8_greet_74 : decode cX8_greet 74 = .ok (.iconst 3, 1) := by decide +kernel
theorem dX8_greet_75 : decode cX8_greet 75 = .ok (.invokevirtual 73, 3) := by decide +kernel
theorem dX8_greet_78 : decode cX8_greet 78 = .ok (.ifCond .eq 5, 3) := by decide +kernel
theorem dX8_greet_81 : decode cX8_greet 81 = .ok (.iconst 0, 1) := by decide +kernel
theorem dX8_greet_82 : decode cX8_greet 82 = .ok (.ireturn, 1) := by decide +kernel
theorem dX8_greet_83 : decode cX8_greet 83 = .ok (.aload_n 0, 1) := by decide +kernel
theorem dX8_greet_84 : decode cX8_greet 84 = .ok (.aload_n 0, 1) := by decide +kernel
theorem dX8_greet_85 : decode cX8_greet 85 = .ok (.iconst 4, 1) := by decide +kernel
theorem dX8_greet_86 : decode cX8_greet 86 = .ok (.iload_n 1, 1) := by decide +kernel
theorem dX8_greet_87 : decode cX8_greet 87 = .ok (.invokevirtual 133, 3) := by decide +kernel
theorem dX8_greet_90 : decode cX8_greet 90 = .ok (.ifCond .eq 16, 3) := by decide +kernel
theorem dX8_greet_93 : decode cX8_greet 93 = .ok (.aload_n 0, 1) := by decide +kernel
theorem dX8_greet_94 : decode cX8_greet 94 = .ok (.getfield 22, 3) := by decide +kernel
theorem dX8_greet_97 : decode cX8_greet 97 = .ok (.aload_n 0, 1) := by decide +kernel
theorem dX8_greet_98 : decode cX8_greet 98 = .ok (.getfield 43, 3) := by decide +kernel
theorem dX8_greet_101 : decode cX8_greet 101 = .ok (.iaload, 1) := by decide +kernel
theorem dX8_greet_102 : decode cX8_greet 102 = .ok (.iload_n 2, 1) := by decide +kernel
theorem dX8_greet_103 : decode cX8_greet 103 = .ok (.if_icmp .eq 25, 3) := by decide +kernel
theorem dX8_greet_106 : decode cX8_greet 106 = .ok (.aload_n 0, 1) := by decide +kernel
theorem dX8_greet_107 : decode cX8_greet 107 = .ok (.iconst 4, 1) := by decide +kernel
theorem dX8_greet_108 : decode cX8_greet 108 = .ok (.iload_n 2, 1) := by decide +kernel
theorem dX8_greet_109 : decode cX8_greet 109 = .ok (.invokevirtual 133, 3) := by decide +kernel
theorem dX8_greet_112 : decode cX8_greet 112 = .ok (.ifCond .eq 20, 3) := by decide +kernel
theorem dX8_greet_115 : decode cX8_greet 115 = .ok (.aload_n 0, 1) := by decide +kernel
theorem dX8_greet_116 : decode cX8_greet 116 = .ok (.getfield 22, 3) := by decide +kernel
theorem dX8_greet_119 : decode cX8_greet 119 = .ok (.aload_n 0, 1) := by decide +kernel
theorem dX8_greet_120 : decode cX8_greet 120 = .ok (.getfield 43, 3) := by decide +kernel
theorem dX8_greet_123 : decode cX8_greet 123 = .ok (.iaload, 1) := by decide +kernel
theorem dX8_greet_124 : decode cX8_greet 124 = .ok (.iload_n 1, 1) := by decide +kernel
theorem dX8_greet_125 : decode cX8_greet 125 = .ok (.if_icmp .ne 7, 3) := by decide +kernel
theorem dX8_greet_128 : decode cX8_greet 128 = .ok (.iconst 1, 1) := by decide +kernel
theorem dX8_greet_129 : decode cX8_greet 129 = .ok (.goto 4, 3) := by decide +kernel
theorem dX8_greet_132 : decode cX8_greet 132 = .ok (.iconst 0, 1) := by decide +kernel
theorem dX8_greet_133 : decode cX8_greet 133 = .ok (.invokevirtual 136, 3) := by decide +kernel
theorem dX8_greet_136 : decode cX8_greet 136 = .ok (.ireturn, 1) := by decide +kernel
set_option maxRecDepth 20000 in
theorem ggX8_play_X8_isIn : GoodIn wsX8_play wsX8_isIn := goodIn_r _ [13] (by decide +kernel) (by decide +kernel)
set_option maxRecDepth 20000 in
theorem gX8_play_X8_isIn : GoodIn wsX8_play (va_wsS RX8 62 yX8_isIn wsX8_isIn) := goodIn_app (goodIn_of _ (by decide +kernel)) ggX8_play_X8_isIn
set_option maxRecDepth 20000 in
theorem ggX8_play_X8_isMask : GoodIn wsX8_play wsX8_isMask := goodIn_r _ [16, 10, 11, 12, 13] (by decide +kernel) (by decide +kernel)
set_option maxRecDepth 20000 in
theorem gX8_play_X8_isMask : GoodIn wsX8_play (va_wsS RX8 66 yX8_isMask wsX8_isMask) := goodIn_app (goodIn_of _ (by decide +kernel)) ggX8_play_X8_isMask
set_option maxRecDepth 20000 in
theorem ggX8_play_X8_isOn : GoodIn wsX8_play wsX8_isOn := goodIn_r _ [20, 21, 22, 23, 24, 12, 25, 39, 40, 41, 42, 43, 44, 45, 46, 47, 48, 49, 50, 51, 52, 53, 54, 55, 56, 57, 58, 59, 60, 61, 62, 63, 64, 65, 66, 67] (by decide +kernel) (by decide +kernel)
set_option maxRecDepth 20000 in
theorem gX8_play_X8_isOn : GoodIn wsX8_play (wsV RX8 140 RX8 yX8_isOn wsX8_isOn) := goodIn_app (goodIn_of _ (by decide +kernel)) ggX8_play_X8_isOn
set_option maxRecDepth 20000 in
theorem ggX8_play_X8_fails : GoodIn wsX8_play wsX8_fails := goodIn_r _ [29, 30, 39, 40, 41, 42, 43, 44, 45, 46, 47, 48, 49, 50, 51, 52, 53, 54, 55, 56, 57, 58, 59, 60, 61, 62, 63, 64, 65, 66, 67] (by decide +kernel) (by decide +kernel)
set_option maxRecDepth 20000 in
theorem gX8_play_X8_fails : GoodIn wsX8_play (wsV RX8 73 RX8 yX8_fails wsX8_fails) := goodIn_app (goodIn_of _ (by decide +kernel)) ggX8_play_X8_fails
set_option maxRecDepth 20000 in
theorem ggX8_play_X8_goesBy : GoodIn wsX8_play wsX8_goesBy := goodIn_r _ [34, 9, 35, 36, 21, 37, 8, 38, 39, 40, 41, 42, 43, 44, 45, 46, 47, 48, 49, 50, 51, 52, 53, 54, 55, 56, 57, 58, 59, 60, 61, 62, 63, 64, 65, 66, 67] (by decide +kernel) (by decide +kernel)
set_option maxRecDepth 20000 in
theorem gX8_play_X8_goesBy : GoodIn wsX8_play (wsV RX8 129 RX8 yX8_goesBy wsX8_goesBy) := goodIn_app (goodIn_of _ (by decide +kernel)) ggX8_play_X8_goesBy
theorem dX8_play_0 : decode cX8_play 0 = .ok (.iload_n 1, 1) := by decide +kernel
theorem dX8_play_1 : decode cX8_play 1 = .ok (.iconst 0, 1) := by decide +kernel
theorem dX8_play_2 : decode cX8_play 2 = .ok (.aload_n 0, 1) := by decide +kernel
theorem dX8_play_3 : decode cX8_play 3 = .ok (.getfield 102, 3) := by decide +kernel
theorem dX8_play_6 : decode cX8_play 6 = .ok (.iconst 1, 1) := by decide +kernel
theorem dX8_play_7 : decode cX8_play 7 = .ok (.isub, 1) := by decide +kernel
theorem dX8_play_8 : decode cX8_play 8 = .ok (.invokestatic 62, 3) := by decide +kernel
theorem dX8_play_11 : decode cX8_play 11 = .ok (.ifCond .eq 14, 3) := by decide +kernel
theorem dX8_play_14 : decode cX8_play 14 = .ok (.iload_n 2, 1) := by decide +kernel
theorem dX8_play_15 : decode cX8_play 15 = .ok (.invokestatic 66, 3) := by decide +kernel
theorem dX8_play_18 : decode cX8_play 18 = .ok (.ifCond .eq 7, 3) := by decide +kernel
theorem dX8_play_21 : decode cX8_play 21 = .ok (.iconst 1, 1) := by decide +kernel
theorem dX8_play_22 : decode cX8_play 22 = .ok (.goto 4, 3) := by decide +kernel
theorem dX8_play_25 : decode cX8_play 25 = .ok (.iconst 0, 1) := by decide +kernel
theorem dX8_play_26 : decode cX8_play 26 = .ok (.istore_n 3, 1) := by decide +kernel
theorem dX8_play_27 : decode cX8_play 27 = .ok (.iload_n 3, 1) := by decide +kernel
theorem dX8_play_28 : decode cX8_play 28 = .ok (.ifCond .eq 40, 3) := by decide +kernel
theorem dX8_play_31 : decode cX8_play 31 = .ok (.aload_n 0, 1) := by decide +kernel
theorem dX8_play_32 : decode cX8_play 32 = .ok (.iload_n 2, 1) := by decide +kernel
theorem dX8_play_33 : decode cX8_play 33 = .ok (.invokevirtual 140, 3) := by decide +kernel
theorem dX8_play_36 : decode cX8_play 36 = .ok (.ifCond .eq 32, 3) := by decide +kernel
theorem dX8_play_39 : decode cX8_play 39 = .ok (.aload_n 0, 1) := by decide +kernel
theorem dX8_play_40 : decode cX8_play 40 = .ok (.getfield 34, 3) := by decide +kernel
theorem dX8_play_43 : decode cX8_play 43 = .ok (.iload_n 1, 1) := by decide +kernel
theorem dX8_play_44 : decode cX8_play 44 = .ok (.iaload, 1) := by decide +kernel
theorem dX8_play_45 : decode cX8_play 45 = .ok (.iconst (-1), 1) := by decide +kernel
theorem dX8_play_46 : decode cX8_play 46 = .ok (.if_icmp .eq 18, 3) := by decide +kernel
theorem dX8_play_49 : decode cX8_play 49 = .ok (.aload_n 0, 1) := by decide +kernel
theorem dX8_play_50 : decode cX8_play 50 = .ok (.getfield 50, 3) := by decide +kernel
theorem dX8_play_53 : decode cX8_play 53 = .ok (.aload_n 0, 1) := by decide +kernel
theorem dX8_play_54 : decode cX8_play 54 = .ok (.getfield 34, 3) := by decide +kernel
theorem dX8_play_57 : decode cX8_play 57 = .ok (.iload_n 1, 1) := by decide +kernel
theorem dX8_play_58 : decode cX8_play 58 = .ok (.iaload, 1) := by decide +kernel
theorem dX8_play_59 : decode cX8_play 59 = .ok (.iaload, 1) := by decide +kernel
theorem dX8_play_60 : decode cX8_play 60 = .ok (.iload_n 2, 1) := by decide +kernel
theorem dX8_play_61 : decode cX8_play 61 = .ok (.if_icmp .ne 7, 3) := by decide +kernel
theorem dX8_play_64 : decode cX8_play 64 = .ok (.iconst 1, 1) := by decide +kernel
theorem dX8_play_65 : decode cX8_play 65 = .ok (.goto 4, 3) := by decide +kernel
theorem dX8_play_68 : decode cX8_play 68 = .ok (.iconst 0, 1) := by decide +kernel
theorem dX8_play_69 : decode cX8_play 69 = .ok (.istore 4, 2) := by decide +kernel
theorem dX8_play_71 : decode cX8_play 71 = .ok (.aload_n 0, 1) := by decide +kernel
theorem dX8_play_72 : decode cX8_play 72 = .ok (.iload_n 3, 1) := by decide +kernel
theorem dX8_play_73 : decode cX8_play 73 = .ok (.ifCond .ne 7, 3) := by decide +kernel
theorem dX8_play_76 : decode cX8_play 76 = .ok (.iconst 1, 1) := by decide +kernel
theorem dX8_play_77 : decode cX8_play 77 = .ok (.goto 13, 3) := by decide +kernel
theorem dX8_play_80 : decode cX8_play 80 = .ok (.iload 4, 2) := by decide +kernel
theorem dX8_play_82 : decode cX8_play 82 = .ok (.ifCond .eq 7, 3) := by decide +kernel
theorem dX8_play_85 : decode cX8_play 85 = .ok (.iconst 0, 1) := by decide +kernel
theorem dX8_play_86 : decode cX8_play 86 = .ok (.goto 4, 3) := by decide +kernel
theorem dX8_play_89 : decode cX8_play 89 = .ok (.iconst 2, 1) := by decide +kernel
theorem dX8_play_90 : decode cX8_play 90 = .ok (.invokevirtual 73, 3) := by decide +kernel
theorem dX8_play_93 : decode cX8_play 93 = .ok (.ifCond .eq 5, 3) := by decide +kernel
theorem dX8_play_96 : decode cX8_play 96 = .ok (.iconst 0, 1) := by decide +kernel
theorem dX8_play_97 : decode cX8_play 97 = .ok (.ireturn, 1) := by decide +kernel
theorem dX8_play_98 : decode cX8_play 98 = .ok (.aload_n 0, 1) := by decide +kernel
theorem dX8_play_99 : decode cX8_play 99 = .ok (.getfield 37, 3) := by decide +kernel
theorem dX8_play_102 : decode cX8_play 102 = .ok (.iload_n 1, 1) := by decide +kernel
theorem dX8_play_103 : decode cX8_play 103 = .ok (.iaload, 1) := by decide +kernel
theorem dX8_play_104 : decode cX8_play 104 = .ok (.bipush 15, 2) := by decide +kernel
theorem dX8_play_106 : decode cX8_play 106 = .ok (.if_icmp .le 7, 3) := by decide +kernel
theorem dX8_play_109 : decode cX8_play 109 = .ok (.iconst 0, 1) := by decide +kernel
theorem dX8_play_110 : decode cX8_play 110 = .ok (.goto 16, 3) := by decide +kernel
theorem dX8_play_113 : decode cX8_play 113 = .ok (.aload_n 0, 1) := by decide +kernel
theorem dX8_play_114 : decode cX8_play 114 = .ok (.getfield 31, 3) := by decide +kernel
theorem dX8_play_117 : decode cX8_play 117 = .ok (.iload_n 1, 1) := by decide +kernel
theorem dX8_play_118 : decode cX8_play 118 = .ok (.iaload, 1) := by decide +kernel
theorem dX8_play_119 : decode cX8_play 119 = .ok (.aload_n 0, 1) := by decide +kernel
theorem dX8_play_120 : decode cX8_play 120 = .ok (.getfield 37, 3) := by decide +kernel
theorem dX8_play_123 : decode cX8_play 123 = .ok (.iload_n 1, 1) := by decide +kernel
theorem dX8_play_124 : decode cX8_play 124 = .ok (.iaload, 1) := by decide +kernel
theorem dX8_play_125 : decode cX8_play 125 = .ok (.ishr, 1) := by decide +kernel
theorem dX8_play_126 : decode cX8_play 126 = .ok (.istore 5, 2) := by decide +kernel
theorem dX8_play_128 : decode cX8_play 128 = .ok (.aload_n 0, 1) := by decide +kernel
theorem dX8_play_129 : decode cX8_play 129 = .ok (.getfield 37, 3) := by decide +kernel
theorem dX8_play_132 : decode cX8_play 132 = .ok (.iload_n 1, 1) := by decide +kernel
theorem dX8_play_133 : decode cX8_play 133 = .ok (.dup2, 1) := by decide +kernel
theorem dX8_play_134 : decode cX8_play 134 = .ok (.iaload, 1) := by decide +kernel
theorem dX8_play_135 : decode cX8_play 135 = .ok (.iconst 1, 1) := by decide +kernel
theorem dX8_play_136 : decode cX8_play 136 = .ok (.iadd, 1) := by decide +kernel
theorem dX8_play_137 : decode cX8_play 137 = .ok (.iastore, 1) := by decide +kernel
theorem dX8_play_138 : decode cX8_play 138 = .ok (.aload_n 0, 1) := by decide +kernel
theorem dX8_play_139 : decode cX8_play 139 = .ok (.dup, 1) := by decide +kernel
theorem dX8_play_140 : decode cX8_play 140 = .ok (.getfield 146, 3) := by decide +kernel
theorem dX8_play_143 : decode cX8_play 143 = .ok (.iload 5, 2) := by decide +kernel
theorem dX8_play_145 : decode cX8_play 145 = .ok (.iadd, 1) := by decide +kernel
theorem dX8_play_146 : decode cX8_play 146 = .ok (.putfield 146, 3) := by decide +kernel
theorem dX8_play_149 : decode cX8_play 149 = .ok (.aload_n 0, 1) := by decide +kernel
theorem dX8_play_150 : decode cX8_play 150 = .ok (.aload_n 0, 1) := by decide +kernel
theorem dX8_play_151 : decode cX8_play 151 = .ok (.getfield 28, 3) := by decide +kernel
theorem dX8_play_154 : decode cX8_play 154 = .ok (.iload_n 1, 1) := by decide +kernel
theorem dX8_play_155 : decode cX8_play 155 = .ok (.iaload, 1) := by decide +kernel
theorem dX8_play_156 : decode cX8_play 156 = .ok (.aload_n 0, 1) := by decide +kernel
theorem dX8_play_157 : decode cX8_play 157 = .ok (.getfield 114, 3) := by decide +kernel
theorem dX8_play_160 : decode cX8_play 160 = .ok (.aload_n 0, 1) := by decide +kernel
theorem dX8_play_161 : decode cX8_play 161 = .ok (.getfield 117, 3) := by decide +kernel
theorem dX8_play_164 : decode cX8_play 164 = .ok (.isub, 1) := by decide +kernel
theorem dX8_play_165 : decode cX8_play 165 = .ok (.if_icmp .ge 12, 3) := by decide +kernel
theorem dX8_play_168 : decode cX8_play 168 = .ok (.aload_n 0, 1) := by decide +kernel
theorem dX8_play_169 : decode cX8_play 169 = .ok (.getfield 28, 3) := by decide +kernel
theorem dX8_play_172 : decode cX8_play 172 = .ok (.iload_n 1, 1) := by decide +kernel
theorem dX8_play_173 : decode cX8_play 173 = .ok (.iaload, 1) := by decide +kernel
theorem dX8_play_174 : decode cX8_play 174 = .ok (.goto 12, 3) := by decide +kernel
theorem dX8_play_177 : decode cX8_play 177 = .ok (.aload_n 0, 1) := by decide +kernel
theorem dX8_play_178 : decode cX8_play 178 = .ok (.getfield 114, 3) := by decide +kernel
theorem dX8_play_181 : decode cX8_play 181 = .ok (.aload_n 0, 1) := by decide +kernel
theorem dX8_play_182 : decode cX8_play 182 = .ok (.getfield 117, 3) := by decide +kernel
theorem dX8_play_185 : decode cX8_play 185 = .ok (.isub, 1) := by decide +kernel
theorem dX8_play_186 : decode cX8_play 186 = .ok (.invokevirtual 129, 3) := by decide +kernel
theorem dX8_play_189 : decode cX8_play 189 = .ok (.iload 5, 2) := by decide +kernel
theorem dX8_play_191 : decode cX8_play 191 = .ok (.ireturn, 1) := by decide +kernel
theorem dX8_state_0 : decode cX8_state 0 = .ok (.aload_n 0, 1) := by decide +kernel
theorem dX8_state_1 : decode cX8_state 1 = .ok (.iconst 0, 1) := by decide +kernel
theorem dX8_state_2 : decode cX8_state 2 = .ok (.putfield 59, 3) := by decide +kernel
theorem dX8_state_5 : decode cX8_state 5 = .ok (.aload_n 0, 1) := by decide +kernel
theorem dX8_state_6 : decode cX8_state 6 = .ok (.getfield 84, 3) := by decide +kernel
theorem dX8_state_9 : decode cX8_state 9 = .ok (.ireturn, 1) := by decide +kernel
theorem dX8_next_0 : decode cX8_next 0 = .ok (.aload_n 0, 1) := by decide +kernel
theorem dX8_next_1 : decode cX8_next 1 = .ok (.iconst 0, 1) := by decide +kernel
theorem dX8_next_2 : decode cX8_next 2 = .ok (.putfield 59, 3) := by decide +kernel
theorem dX8_next_5 : decode cX8_next 5 = .ok (.aload_n 0, 1) := by decide +kernel
theorem dX8_next_6 : decode cX8_next 6 = .ok (.getfield 43, 3) := by decide +kernel
theorem dX8_next_9 : decode cX8_next 9 = .ok (.ireturn, 1) := by decide +kernel
set_option maxRecDepth 20000 in
theorem ggX8_can_X8_canClose : GoodIn wsX8_can wsX8_canClose := goodIn_r _ [8, 9, 10, 11, 12, 13, 14, 15, 16, 17, 18, 19, 7, 20, 21, 22, 23, 24, 25, 26, 27, 28, 29, 30, 31, 32, 33, 34, 35, 36, 37, 38, 39, 40, 41, 42, 43, 44, 45, 46, 47, 48, 49, 50, 51, 52, 53, 54, 55, 56, 57, 58, 59, 60, 61, 62, 63] (by decide +kernel) (by decide +kernel)
set_option maxRecDepth 20000 in
theorem gX8_can_X8_canClose : GoodIn wsX8_can (wsV RX8 143 RX8 yX8_canClose wsX8_canClose) := goodIn_app (goodIn_of _ (by decide +kernel)) ggX8_can_X8_canClose
theorem dX8_can_0 : decode cX8_can 0 = .ok (.aload_n 0, 1) := by decide +kernel
theorem dX8_can_1 : decode cX8_can 1 = .ok (.iconst 0, 1) := by decide +kernel
theorem dX8_can_2 : decode cX8_can 2 = .ok (.putfield 59, 3) := by decide +kernel
theorem dX8_can_5 : decode cX8_can 5 = .ok (.aload_n 0, 1) := by decide +kernel
theorem dX8_can_6 : decode cX8_can 6 = .ok (.getfield 84, 3) := by decide +kernel
theorem dX8_can_9 : decode cX8_can 9 = .ok (.iconst 1, 1) := by decide +kernel
theorem dX8_can_10 : decode cX8_can 10 = .ok (.if_icmp .ne 18, 3) := by decide +kernel
theorem dX8_can_13 : decode cX8_can 13 = .ok (.aload_n 0, 1) := by decide +kernel
theorem dX8_can_14 : decode cX8_can 14 = .ok (.aload_n 0, 1) := by decide +kernel
theorem dX8_can_15 : decode cX8_can 15 = .ok (.getfield 43, 3) := by decide +kernel
theorem dX8_can_18 : decode cX8_can 18 = .ok (.invokevirtual 143, 3) := by decide +kernel
theorem dX8_can_21 : decode cX8_can 21 = .ok (.ifCond .eq 7, 3) := by decide +kernel
theorem dX8_can_24 : decode cX8_can 24 = .ok (.iconst 1, 1) := by decide +kernel
theorem dX8_can_25 : decode cX8_can 25 = .ok (.goto 4, 3) := by decide +kernel
theorem dX8_can_28 : decode cX8_can 28 = .ok (.iconst 0, 1) := by decide +kernel
theorem dX8_can_29 : decode cX8_can 29 = .ok (.ireturn, 1) := by decide +kernel
set_option maxRecDepth 20000 in
theorem ggX8_off_X8_holds : GoodIn wsX8_off wsX8_holds := goodIn_r _ [5] (by decide +kernel) (by decide +kernel)
set_option maxRecDepth 20000 in
theorem gX8_off_X8_holds : GoodIn wsX8_off (va_wsS RX8 76 yX8_holds wsX8_holds) := goodIn_app (goodIn_of _ (by decide +kernel)) ggX8_off_X8_holds
theorem dX8_off_0 : decode cX8_off 0 = .ok (.aload_n 0, 1) := by decide +kernel
theorem dX8_off_1 : decode cX8_off 1 = .ok (.getfield 96, 3) := by decide +kernel
theorem dX8_off_4 : decode cX8_off 4 = .ok (.iload_n 1, 1) := by decide +kernel
theorem dX8_off_5 : decode cX8_off 5 = .ok (.invokestatic 76, 3) := by decide +kernel
theorem dX8_off_8 : decode cX8_off 8 = .ok (.ifCond .eq 7, 3) := by decide +kernel
theorem dX8_off_11 : decode cX8_off 11 = .ok (.iconst 0, 1) := by decide +kernel
theorem dX8_off_12 : decode cX8_off 12 = .ok (.goto 4, 3) := by decide +kernel
theorem dX8_off_15 : decode cX8_off 15 = .ok (.iconst 1, 1) := by decide +kernel
theorem dX8_off_16 : decode cX8_off 16 = .ok (.ireturn, 1) := by decide +kernel
set_option maxRecDepth 20000 in
theorem ggX8_bringing_X8_off : GoodIn wsX8_bringing wsX8_off := goodIn_r _ [6, 7, 8, 9, 5, 10, 11, 12, 13, 14, 15, 16, 17, 18, 19, 20, 21, 22, 23, 24, 25, 26, 27, 28, 29, 30, 31, 32, 33, 34, 35, 36, 37, 38, 39] (by decide +kernel) (by decide +kernel)
set_option maxRecDepth 20000 in
theorem gX8_bringing_X8_off : GoodIn wsX8_bringing (wsV RX8 149 RX8 yX8_off wsX8_off) := goodIn_app (goodIn_of _ (by decide +kernel)) ggX8_bringing_X8_off
theorem dX8_bringing_0 : decode cX8_bringing 0 = .ok (.aload_n 0, 1) := by decide +kernel
theorem dX8_bringing_1 : decode cX8_bringing 1 = .ok (.getfield 50, 3) := by decide +kernel
theorem dX8_bringing_4 : decode cX8_bringing 4 = .ok (.iload_n 3, 1) := by decide +kernel
theorem dX8_bringing_5 : decode cX8_bringing 5 = .ok (.iaload, 1) := by decide +kernel
theorem dX8_bringing_6 : decode cX8_bringing 6 = .ok (.istore 4, 2) := by decide +kernel
theorem dX8_bringing_8 : decode cX8_bringing 8 = .ok (.iload 4, 2) := by decide +kernel
theorem dX8_bringing_10 : decode cX8_bringing 10 = .ok (.iload_n 1, 1) := by decide +kernel
theorem dX8_bringing_11 : decode cX8_bringing 11 = .ok (.if_icmp .ne 7, 3) := by decide +kernel
theorem dX8_bringing_14 : decode cX8_bringing 14 = .ok (.iconst 0, 1) := by decide +kernel
theorem dX8_bringing_15 : decode cX8_bringing 15 = .ok (.goto 27, 3) := by decide +kernel
theorem dX8_bringing_18 : decode cX8_bringing 18 = .ok (.iload 4, 2) := by decide +kernel
theorem dX8_bringing_20 : decode cX8_bringing 20 = .ok (.iconst (-1), 1) := by decide +kernel
theorem dX8_bringing_21 : decode cX8_bringing 21 = .ok (.if_icmp .eq 9, 3) := by decide +kernel
theorem dX8_bringing_24 : decode cX8_bringing 24 = .ok (.iload 4, 2) := by decide +kernel
theorem dX8_bringing_26 : decode cX8_bringing 26 = .ok (.iload_n 2, 1) := by decide +kernel
theorem dX8_bringing_27 : decode cX8_bringing 27 = .ok (.if_icmp .ne 7, 3) := by decide +kernel
theorem dX8_bringing_30 : decode cX8_bringing 30 = .ok (.iconst 1, 1) := by decide +kernel
theorem dX8_bringing_31 : decode cX8_bringing 31 = .ok (.goto 11, 3) := by decide +kernel
theorem dX8_bringing_34 : decode cX8_bringing 34 = .ok (.iconst 1, 1) := by decide +kernel
theorem dX8_bringing_35 : decode cX8_bringing 35 = .ok (.aload_n 0, 1) := by decide +kernel
theorem dX8_bringing_36 : decode cX8_bringing 36 = .ok (.iload 4, 2) := by decide +kernel
theorem dX8_bringing_38 : decode cX8_bringing 38 = .ok (.invokevirtual 149, 3) := by decide +kernel
theorem dX8_bringing_41 : decode cX8_bringing 41 = .ok (.iadd, 1) := by decide +kernel
theorem dX8_bringing_42 : decode cX8_bringing 42 = .ok (.ireturn, 1) := by decide +kernel
set_option maxRecDepth 20000 in
theorem ggX8_telling_X8_holds : GoodIn wsX8_telling wsX8_holds := goodIn_r _ [7] (by decide +kernel) (by decide +kernel)
set_option maxRecDepth 20000 in
theorem gX8_telling_X8_holds : GoodIn wsX8_telling (va_wsS RX8 76 yX8_holds wsX8_holds) := goodIn_app (goodIn_of _ (by decide +kernel)) ggX8_telling_X8_holds
theorem dX8_telling_0 : decode cX8_telling 0 = .ok (.aload_n 0, 1) := by decide +kernel
theorem dX8_telling_1 : decode cX8_telling 1 = .ok (.getfield 47, 3) := by decide +kernel
theorem dX8_telling_4 : decode cX8_telling 4 = .ok (.iload_n 2, 1) := by decide +kernel
theorem dX8_telling_5 : decode cX8_telling 5 = .ok (.iaload, 1) := by decide +kernel
theorem dX8_telling_6 : decode cX8_telling 6 = .ok (.iload_n 1, 1) := by decide +kernel
theorem dX8_telling_7 : decode cX8_telling 7 = .ok (.invokestatic 76, 3) := by decide +kernel
theorem dX8_telling_10 : decode cX8_telling 10 = .ok (.ifCond .eq 5, 3) := by decide +kernel
theorem dX8_telling_13 : decode cX8_telling 13 = .ok (.iconst 0, 1) := by decide +kernel
theorem dX8_telling_14 : decode cX8_telling 14 = .ok (.ireturn, 1) := by decide +kernel
theorem dX8_telling_15 : decode cX8_telling 15 = .ok (.aload_n 0, 1) := by decide +kernel
theorem dX8_telling_16 : decode cX8_telling 16 = .ok (.getfield 47, 3) := by decide +kernel
theorem dX8_telling_19 : decode cX8_telling 19 = .ok (.iload_n 2, 1) := by decide +kernel
theorem dX8_telling_20 : decode cX8_telling 20 = .ok (.iaload, 1) := by decide +kernel
theorem dX8_telling_21 : decode cX8_telling 21 = .ok (.aload_n 0, 1) := by decide +kernel
theorem dX8_telling_22 : decode cX8_telling 22 = .ok (.getfield 96, 3) := by decide +kernel
theorem dX8_telling_25 : decode cX8_telling 25 = .ok (.iand, 1) := by decide +kernel
theorem dX8_telling_26 : decode cX8_telling 26 = .ok (.aload_n 0, 1) := by decide +kernel
theorem dX8_telling_27 : decode cX8_telling 27 = .ok (.getfield 93, 3) := by decide +kernel
theorem dX8_telling_30 : decode cX8_telling 30 = .ok (.iconst (-1), 1) := by decide +kernel
theorem dX8_telling_31 : decode cX8_telling 31 = .ok (.ixor, 1) := by decide +kernel
theorem dX8_telling_32 : decode cX8_telling 32 = .ok (.iand, 1) := by decide +kernel
theorem dX8_telling_33 : decode cX8_telling 33 = .ok (.ifCond .eq 7, 3) := by decide +kernel
theorem dX8_telling_36 : decode cX8_telling 36 = .ok (.iconst 1, 1) := by decide +kernel
theorem dX8_telling_37 : decode cX8_telling 37 = .ok (.goto 4, 3) := by decide +kernel
theorem dX8_telling_40 : decode cX8_telling 40 = .ok (.iconst 2, 1) := by decide +kernel
theorem dX8_telling_41 : decode cX8_telling 41 = .ok (.ireturn, 1) := by decide +kernel
set_option maxRecDepth 20000 in
theorem ggX8_wayOf_X8_canClose : GoodIn wsX8_wayOf wsX8_canClose := goodIn_r _ [11, 12, 13, 14, 15, 16, 5, 17, 3, 4, 18, 19, 10, 20, 21, 22, 23, 24, 6, 25, 26, 27, 28, 29, 30, 31, 32, 33, 47, 48, 49, 50, 51, 52, 53, 54, 55, 56, 57, 58, 59, 60, 61, 62, 63, 64, 65, 66, 67, 68, 69, 70, 71, 72, 73, 74, 75] (by decide +kernel) (by decide +kernel)
set_option maxRecDepth 20000 in
theorem gX8_wayOf_X8_canClose : GoodIn wsX8_wayOf (wsV RX8 143 RX8 yX8_canClose wsX8_canClose) := goodIn_app (goodIn_of _ (by decide +kernel)) ggX8_wayOf_X8_canClose
set_option maxRecDepth 20000 in
theorem ggX8_wayOf_X8_off : GoodIn wsX8_wayOf wsX8_off := goodIn_r _ [37, 38, 18, 19, 10, 20, 47, 48, 49, 50, 51, 52, 53, 54, 55, 56, 57, 58, 59, 60, 61, 62, 63, 64, 65, 66, 67, 68, 69, 70, 71, 72, 73, 74, 75] (by decide +kernel) (by decide +kernel)
set_option maxRecDepth 20000 in
theorem gX8_wayOf_X8_off : GoodIn wsX8_wayOf (wsV RX8 149 RX8 yX8_off wsX8_off) := goodIn_app (goodIn_of _ (by decide +kernel)) ggX8_wayOf_X8_off
set_option maxRecDepth 20000 in
theorem ggX8_wayOf_X8_bringing : GoodIn wsX8_wayOf wsX8_bringing := goodIn_r _ [42, 15, 34, 35, 36, 10, 37, 38, 18, 19, 20, 47, 48, 49, 50, 51, 52, 53, 54, 55, 56, 57, 58, 59, 60, 61, 62, 63, 64, 65, 66, 67, 68, 69, 70, 71, 72, 73, 74, 75] (by decide +kernel) (by decide +kernel)
set_option maxRecDepth 20000 in
theorem gX8_wayOf_X8_bringing : GoodIn wsX8_wayOf (wsV RX8 153 RX8 yX8_bringing wsX8_bringing) := goodIn_app (goodIn_of _ (by decide +kernel)) ggX8_wayOf_X8_bringing
set_option maxRecDepth 20000 in
theorem ggX8_wayOf_X8_telling : GoodIn wsX8_wayOf wsX8_telling := goodIn_r _ [46, 13, 38, 17, 18, 19, 10, 20, 47, 48, 49, 50, 51, 52, 53, 54, 55, 56, 57, 58, 59, 60, 61, 62, 63, 64, 65, 66, 67, 68, 69, 70, 71, 72, 73, 74, 75] (by decide +kernel) (by decide +kernel)
set_option maxRecDepth 20000 in
theorem gX8_wayOf_X8_telling : GoodIn wsX8_wayOf (wsV RX8 157 RX8 yX8_telling wsX8_telling) := goodIn_app (goodIn_of _ (by decide +kernel)) ggX8_wayOf_X8_telling
theorem dX8_wayOf_0 : decode cX8_wayOf 0 = .ok (.aload_n 0, 1) := by decide +kernel
theorem dX8_wayOf_1 : decode cX8_wayOf 1 = .ok (.getfield 84, 3) := by decide +kernel
theorem dX8_wayOf_4 : decode cX8_wayOf 4 = .ok (.iconst 1, 1) := by decide +kernel
theorem dX8_wayOf_5 : decode cX8_wayOf 5 = .ok (.if_icmp .ne 14, 3) := by decide +kernel
theorem dX8_wayOf_8 : decode cX8_wayOf 8 = .ok (.aload_n 0, 1) := by decide +kernel
theorem dX8_wayOf_9 : decode cX8_wayOf 9 = .ok (.aload_n 0, 1) := by decide +kernel
theorem dX8_wayOf_10 : decode cX8_wayOf 10 = .ok (.getfield 43, 3) := by decide +kernel
theorem dX8_wayOf_13 : decode cX8_wayOf 13 = .ok (.invokevirtual 143, 3) := by decide +kernel
theorem dX8_wayOf_16 : decode cX8_wayOf 16 = .ok (.ifCond .ne 5, 3) := by decide +kernel
theorem dX8_wayOf_19 : decode cX8_wayOf 19 = .ok (.iconst (-1), 1) := by decide +kernel
theorem dX8_wayOf_20 : decode cX8_wayOf 20 = .ok (.ireturn, 1) := by decide +kernel
theorem dX8_wayOf_21 : decode cX8_wayOf 21 = .ok (.aload_n 0, 1) := by decide +kernel
theorem dX8_wayOf_22 : decode cX8_wayOf 22 = .ok (.getfield 19, 3) := by decide +kernel
theorem dX8_wayOf_25 : decode cX8_wayOf 25 = .ok (.aload_n 0, 1) := by decide +kernel
theorem dX8_wayOf_26 : decode cX8_wayOf 26 = .ok (.getfield 43, 3) := by decide +kernel
theorem dX8_wayOf_29 : decode cX8_wayOf 29 = .ok (.iaload, 1) := by decide +kernel
theorem dX8_wayOf_30 : decode cX8_wayOf 30 = .ok (.istore_n 1, 1) := by decide +kernel
theorem dX8_wayOf_31 : decode cX8_wayOf 31 = .ok (.aload_n 0, 1) := by decide +kernel
theorem dX8_wayOf_32 : decode cX8_wayOf 32 = .ok (.getfield 22, 3) := by decide +kernel
theorem dX8_wayOf_35 : decode cX8_wayOf 35 = .ok (.aload_n 0, 1) := by decide +kernel
theorem dX8_wayOf_36 : decode cX8_wayOf 36 = .ok (.getfield 43, 3) := by decide +kernel
theorem dX8_wayOf_39 : decode cX8_wayOf 39 = .ok (.iaload, 1) := by decide +kernel
theorem dX8_wayOf_40 : decode cX8_wayOf 40 = .ok (.istore_n 2, 1) := by decide +kernel
theorem dX8_wayOf_41 : decode cX8_wayOf 41 = .ok (.aload_n 0, 1) := by decide +kernel
theorem dX8_wayOf_42 : decode cX8_wayOf 42 = .ok (.getfield 16, 3) := by decide +kernel
theorem dX8_wayOf_45 : decode cX8_wayOf 45 = .ok (.aload_n 0, 1) := by decide +kernel
theorem dX8_wayOf_46 : decode cX8_wayOf 46 = .ok (.getfield 43, 3) := by decide +kernel
theorem dX8_wayOf_49 : decode cX8_wayOf 49 = .ok (.iaload, 1) := by decide +kernel
theorem dX8_wayOf_50 : decode cX8_wayOf 50 = .ok (.tableswitch 90 1 4 #[60, 30, 38, 46], 30) := by decide +kernel
theorem dX8_wayOf_80 : decode cX8_wayOf 80 = .ok (.iconst 2, 1) := by decide +kernel
theorem dX8_wayOf_81 : decode cX8_wayOf 81 = .ok (.aload_n 0, 1) := by decide +kernel
theorem dX8_wayOf_82 : decode cX8_wayOf 82 = .ok (.iload_n 1, 1) := by decide +kernel
theorem dX8_wayOf_83 : decode cX8_wayOf 83 = .ok (.invokevirtual 149, 3) := by decide +kernel
theorem dX8_wayOf_86 : decode cX8_wayOf 86 = .ok (.isub, 1) := by decide +kernel
theorem dX8_wayOf_87 : decode cX8_wayOf 87 = .ok (.ireturn, 1) := by decide +kernel
theorem dX8_wayOf_88 : decode cX8_wayOf 88 = .ok (.iconst 1, 1) := by decide +kernel
theorem dX8_wayOf_89 : decode cX8_wayOf 89 = .ok (.aload_n 0, 1) := by decide +kernel
theorem dX8_wayOf_90 : decode cX8_wayOf 90 = .ok (.iload_n 1, 1) := by decide +kernel
theorem dX8_wayOf_91 : decode cX8_wayOf 91 = .ok (.invokevirtual 149, 3) := by decide +kernel
theorem dX8_wayOf_94 : decode cX8_wayOf 94 = .ok (.iadd, 1) := by decide +kernel
theorem dX8_wayOf_95 : decode cX8_wayOf 95 = .ok (.ireturn, 1) := by decide +kernel
theorem dX8_wayOf_96 : decode cX8_wayOf 96 = .ok (.iconst 1, 1) := by decide +kernel
theorem dX8_wayOf_97 : decode cX8_wayOf 97 = .ok (.aload_n 0, 1) := by decide +kernel
theorem dX8_wayOf_98 : decode cX8_wayOf 98 = .ok (.iload_n 1, 1) := by decide +kernel
theorem dX8_wayOf_99 : decode cX8_wayOf 99 = .ok (.invokevirtual 149, 3) := by decide +kernel
theorem dX8_wayOf_102 : decode cX8_wayOf 102 = .ok (.iadd, 1) := by decide +kernel
theorem dX8_wayOf_103 : decode cX8_wayOf 103 = .ok (.aload_n 0, 1) := by decide +kernel
theorem dX8_wayOf_104 : decode cX8_wayOf 104 = .ok (.iload_n 2, 1) := by decide +kernel
theorem dX8_wayOf_105 : decode cX8_wayOf 105 = .ok (.invokevirtual 149, 3) := by decide +kernel
theorem dX8_wayOf_108 : decode cX8_wayOf 108 = .ok (.iadd, 1) := by decide +kernel
theorem dX8_wayOf_109 : decode cX8_wayOf 109 = .ok (.ireturn, 1) := by decide +kernel
theorem dX8_wayOf_110 : decode cX8_wayOf 110 = .ok (.iconst 1, 1) := by decide +kernel
theorem dX8_wayOf_111 : decode cX8_wayOf 111 = .ok (.aload_n 0, 1) := by decide +kernel
theorem dX8_wayOf_112 : decode cX8_wayOf 112 = .ok (.iload_n 1, 1) := by decide +kernel
theorem dX8_wayOf_113 : decode cX8_wayOf 113 = .ok (.invokevirtual 149, 3) := by decide +kernel
theorem dX8_wayOf_116 : decode cX8_wayOf 116 = .ok (.iadd, 1) := by decide +kernel
theorem dX8_wayOf_117 : decode cX8_wayOf 117 = .ok (.aload_n 0, 1) := by decide +kernel
theorem dX8_wayOf_118 : decode cX8_wayOf 118 = .ok (.iload_n 2, 1) := by decide +kernel
theorem dX8_wayOf_119 : decode cX8_wayOf 119 = .ok (.invokevirtual 149, 3) := by decide +kernel
theorem dX8_wayOf_122 : decode cX8_wayOf 122 = .ok (.iadd, 1) := by decide +kernel
theorem dX8_wayOf_123 : decode cX8_wayOf 123 = .ok (.aload_n 0, 1) := by decide +kernel
theorem dX8_wayOf_124 : decode cX8_wayOf 124 = .ok (.iload_n 1, 1) := by decide +kernel
theorem dX8_wayOf_125 : decode cX8_wayOf 125 = .ok (.iload_n 2, 1) := by decide +kernel
theorem dX8_wayOf_126 : decode cX8_wayOf 126 = .ok (.aload_n 0, 1) := by decide +kernel
theorem dX8_wayOf_127 : decode cX8_wayOf 127 = .ok (.getfield 25, 3) := by decide +kernel
theorem dX8_wayOf_130 : decode cX8_wayOf 130 = .ok (.aload_n 0, 1) := by decide +kernel
theorem dX8_wayOf_131 : decode cX8_wayOf 131 = .ok (.getfield 43, 3) := by decide +kernel
theorem dX8_wayOf_134 : decode cX8_wayOf 134 = .ok (.iaload, 1) := by decide +kernel
theorem dX8_wayOf_135 : decode cX8_wayOf 135 = .ok (.invokevirtual 153, 3) := by decide +kernel
theorem dX8_wayOf_138 : decode cX8_wayOf 138 = .ok (.iadd, 1) := by decide +kernel
theorem dX8_wayOf_139 : decode cX8_wayOf 139 = .ok (.ireturn, 1) := by decide +kernel
theorem dX8_wayOf_140 : decode cX8_wayOf 140 = .ok (.iconst 1, 1) := by decide +kernel
theorem dX8_wayOf_141 : decode cX8_wayOf 141 = .ok (.aload_n 0, 1) := by decide +kernel
theorem dX8_wayOf_142 : decode cX8_wayOf 142 = .ok (.iload_n 1, 1) := by decide +kernel
theorem dX8_wayOf_143 : decode cX8_wayOf 143 = .ok (.invokevirtual 149, 3) := by decide +kernel
theorem dX8_wayOf_146 : decode cX8_wayOf 146 = .ok (.iadd, 1) := by decide +kernel
theorem dX8_wayOf_147 : decode cX8_wayOf 147 = .ok (.aload_n 0, 1) := by decide +kernel
theorem dX8_wayOf_148 : decode cX8_wayOf 148 = .ok (.iload_n 2, 1) := by decide +kernel
theorem dX8_wayOf_149 : decode cX8_wayOf 149 = .ok (.invokevirtual 149, 3) := by decide +kernel
theorem dX8_wayOf_152 : decode cX8_wayOf 152 = .ok (.iadd, 1) := by decide +kernel
theorem dX8_wayOf_153 : decode cX8_wayOf 153 = .ok (.aload_n 0, 1) := by decide +kernel
theorem dX8_wayOf_154 : decode cX8_wayOf 154 = .ok (.iload_n 1, 1) := by decide +kernel
theorem dX8_wayOf_155 : decode cX8_wayOf 155 = .ok (.aload_n 0, 1) := by decide +kernel
theorem dX8_wayOf_156 : decode cX8_wayOf 156 = .ok (.getfield 25, 3) := by decide +kernel
theorem dX8_wayOf_159 : decode cX8_wayOf 159 = .ok (.aload_n 0, 1) := by decide +kernel
theorem dX8_wayOf_160 : decode cX8_wayOf 160 = .ok (.getfield 43, 3) := by decide +kernel
theorem dX8_wayOf_163 : decode cX8_wayOf 163 = .ok (.iaload, 1) := by decide +kernel
theorem dX8_wayOf_164 : decode cX8_wayOf 164 = .ok (.invokevirtual 157, 3) := by decide +kernel
theorem dX8_wayOf_167 : decode cX8_wayOf 167 = .ok (.iadd, 1) := by decide +kernel
theorem dX8_wayOf_168 : decode cX8_wayOf 168 = .ok (.ireturn, 1) := by decide +kernel
set_option maxRecDepth 20000 in
theorem ggX8_way_X8_wayOf : GoodIn wsX8_way wsX8_wayOf := goodIn_r _ [6, 7, 8, 9, 10, 11, 12, 13, 14, 15, 5, 16, 17, 18, 19, 20, 21, 22, 23, 24, 25, 26, 27, 28, 29, 30, 31, 32, 33, 34, 35, 36, 37, 38, 39, 40, 41, 42, 43, 44, 45, 46, 47, 48, 49, 50, 51, 52, 53, 54, 55, 56, 57, 58, 59, 60, 61, 62, 63, 64, 65, 66, 67, 68, 69, 70, 71, 72, 73, 74, 75, 76, 77, 78, 79, 80] (by decide +kernel) (by decide +kernel)
set_option maxRecDepth 20000 in
theorem gX8_way_X8_wayOf : GoodIn wsX8_way (wsV RX8 161 RX8 yX8_wayOf wsX8_wayOf) := goodIn_app (goodIn_of _ (by decide +kernel)) ggX8_way_X8_wayOf
theorem dX8_way_0 : decode cX8_way 0 = .ok (.aload_n 0, 1) := by decide +kernel
theorem dX8_way_1 : decode cX8_way 1 = .ok (.iconst 0, 1) := by decide +kernel
theorem dX8_way_2 : decode cX8_way 2 = .ok (.putfield 59, 3) := by decide +kernel
theorem dX8_way_5 : decode cX8_way 5 = .ok (.aload_n 0, 1) := by decide +kernel
theorem dX8_way_6 : decode cX8_way 6 = .ok (.invokevirtual 161, 3) := by decide +kernel
theorem dX8_way_9 : decode cX8_way 9 = .ok (.ireturn, 1) := by decide +kernel
set_option maxRecDepth 20000 in
theorem ggX8_wayAnew_X8_wayOf : GoodIn wsX8_wayAnew wsX8_wayOf := goodIn_r _ [6, 7, 8, 9, 10, 11, 12, 13, 14, 15, 5, 16, 17, 18, 19, 20, 21, 22, 23, 24, 25, 26, 27, 28, 29, 30, 31, 32, 33, 34, 35, 36, 37, 38, 39, 40, 41, 42, 43, 44, 45, 46, 47, 48, 49, 50, 51, 52, 53, 54, 55, 56, 57, 58, 59, 60, 61, 62, 63, 64, 65, 66, 67, 68, 69, 70, 71, 72, 73, 74, 75, 76, 77, 78, 79, 80] (by decide +kernel) (by decide +kernel)
set_option maxRecDepth 20000 in
theorem gX8_wayAnew_X8_wayOf : GoodIn wsX8_wayAnew (wsV RX8 161 RX8 yX8_wayOf wsX8_wayOf) := goodIn_app (goodIn_of _ (by decide +kernel)) ggX8_wayAnew_X8_wayOf
theorem dX8_wayAnew_0 : decode cX8_wayAnew 0 = .ok (.aload_n 0, 1) := by decide +kernel
theorem dX8_wayAnew_1 : decode cX8_wayAnew 1 = .ok (.iconst 0, 1) := by decide +kernel
theorem dX8_wayAnew_2 : decode cX8_wayAnew 2 = .ok (.putfield 59, 3) := by decide +kernel
theorem dX8_wayAnew_5 : decode cX8_wayAnew 5 = .ok (.aload_n 0, 1) := by decide +kernel
theorem dX8_wayAnew_6 : decode cX8_wayAnew 6 = .ok (.invokevirtual 161, 3) := by decide +kernel
theorem dX8_wayAnew_9 : decode cX8_wayAnew 9 = .ok (.ireturn, 1) := by decide +kernel
set_option maxRecDepth 20000 in
theorem ggX8_isKnown_X8_isMask : GoodIn wsX8_isKnown wsX8_isMask := goodIn_r _ [5, 6, 7, 4, 8] (by decide +kernel) (by decide +kernel)
set_option maxRecDepth 20000 in
theorem gX8_isKnown_X8_isMask : GoodIn wsX8_isKnown (va_wsS RX8 66 yX8_isMask wsX8_isMask) := goodIn_app (goodIn_of _ (by decide +kernel)) ggX8_isKnown_X8_isMask
set_option maxRecDepth 20000 in
theorem ggX8_isKnown_X8_isSecret : GoodIn wsX8_isKnown wsX8_isSecret := goodIn_r _ [11, 6, 7, 4, 8] (by decide +kernel) (by decide +kernel)
set_option maxRecDepth 20000 in
theorem gX8_isKnown_X8_isSecret : GoodIn wsX8_isKnown (va_wsS RX8 70 yX8_isSecret wsX8_isSecret) := goodIn_app (goodIn_of _ (by decide +kernel)) ggX8_isKnown_X8_isSecret
set_option maxRecDepth 20000 in
theorem ggX8_isKnown_X8_fails : GoodIn wsX8_isKnown wsX8_fails := goodIn_r _ [15, 16, 20, 21, 22, 23, 24, 25, 26, 27, 28, 29, 30, 31, 32, 33, 34, 35, 36, 37, 38, 39, 40, 41, 42, 43, 44, 45, 46, 47, 48] (by decide +kernel) (by decide +kernel)
set_option maxRecDepth 20000 in
theorem gX8_isKnown_X8_fails : GoodIn wsX8_isKnown (wsV RX8 73 RX8 yX8_fails wsX8_fails) := goodIn_app (goodIn_of _ (by decide +kernel)) ggX8_isKnown_X8_fails
set_option maxRecDepth 20000 in
theorem ggX8_isKnown_X8_holds : GoodIn wsX8_isKnown wsX8_holds := goodIn_r _ [19] (by decide +kernel) (by decide +kernel)
set_option maxRecDepth 20000 in
theorem gX8_isKnown_X8_holds : GoodIn wsX8_isKnown (va_wsS RX8 76 yX8_holds wsX8_holds) := goodIn_app (goodIn_of _ (by decide +kernel)) ggX8_isKnown_X8_holds
theorem dX8_isKnown_0 : decode cX8_isKnown 0 = .ok (.aload_n 0, 1) := by decide +kernel
theorem dX8_isKnown_1 : decode cX8_isKnown 1 = .ok (.iload_n 1, 1) := by decide +kernel
theorem dX8_isKnown_2 : decode cX8_isKnown 2 = .ok (.invokestatic 66, 3) := by decide +kernel
theorem dX8_isKnown_5 : decode cX8_isKnown 5 = .ok (.ifCond .eq 14, 3) := by decide +kernel
theorem dX8_isKnown_8 : decode cX8_isKnown 8 = .ok (.iload_n 2, 1) := by decide +kernel
theorem dX8_isKnown_9 : decode cX8_isKnown 9 = .ok (.invokestatic 70, 3) := by decide +kernel
theorem dX8_isKnown_12 : decode cX8_isKnown 12 = .ok (.ifCond .eq 7, 3) := by decide +kernel
theorem dX8_isKnown_15 : decode cX8_isKnown 15 = .ok (.iconst 0, 1) := by decide +kernel
theorem dX8_isKnown_16 : decode cX8_isKnown 16 = .ok (.goto 4, 3) := by decide +kernel
theorem dX8_isKnown_19 : decode cX8_isKnown 19 = .ok (.iconst 1, 1) := by decide +kernel
theorem dX8_isKnown_20 : decode cX8_isKnown 20 = .ok (.invokevirtual 73, 3) := by decide +kernel
theorem dX8_isKnown_23 : decode cX8_isKnown 23 = .ok (.ifCond .ne 20, 3) := by decide +kernel
theorem dX8_isKnown_26 : decode cX8_isKnown 26 = .ok (.aload_n 0, 1) := by decide +kernel
theorem dX8_isKnown_27 : decode cX8_isKnown 27 = .ok (.getfield 47, 3) := by decide +kernel
theorem dX8_isKnown_30 : decode cX8_isKnown 30 = .ok (.iload_n 2, 1) := by decide +kernel
theorem dX8_isKnown_31 : decode cX8_isKnown 31 = .ok (.iaload, 1) := by decide +kernel
theorem dX8_isKnown_32 : decode cX8_isKnown 32 = .ok (.iload_n 1, 1) := by decide +kernel
theorem dX8_isKnown_33 : decode cX8_isKnown 33 = .ok (.invokestatic 76, 3) := by decide +kernel
theorem dX8_isKnown_36 : decode cX8_isKnown 36 = .ok (.ifCond .eq 7, 3) := by decide +kernel
theorem dX8_isKnown_39 : decode cX8_isKnown 39 = .ok (.iconst 1, 1) := by decide +kernel
theorem dX8_isKnown_40 : decode cX8_isKnown 40 = .ok (.goto 4, 3) := by decide +kernel
theorem dX8_isKnown_43 : decode cX8_isKnown 43 = .ok (.iconst 0, 1) := by decide +kernel
theorem dX8_isKnown_44 : decode cX8_isKnown 44 = .ok (.ireturn, 1) := by decide +kernel
set_option maxRecDepth 20000 in
theorem ggX8_holder_X8_isProp : GoodIn wsX8_holder wsX8_isProp := goodIn_r _ [5, 6, 7, 4, 8] (by decide +kernel) (by decide +kernel)
set_option maxRecDepth 20000 in
theorem gX8_holder_X8_isProp : GoodIn wsX8_holder (va_wsS RX8 87 yX8_isProp wsX8_isProp) := goodIn_app (goodIn_of _ (by decide +kernel)) ggX8_holder_X8_isProp
set_option maxRecDepth 20000 in
theorem ggX8_holder_X8_fails : GoodIn wsX8_holder wsX8_fails := goodIn_r _ [12, 13, 14, 15, 16, 17, 18, 19, 20, 21, 22, 23, 24, 25, 26, 27, 28, 29, 30, 31, 32, 33, 34, 35, 36, 37, 38, 39, 40, 41, 42] (by decide +kernel) (by decide +kernel)
set_option maxRecDepth 20000 in
theorem gX8_holder_X8_fails : GoodIn wsX8_holder (wsV RX8 73 RX8 yX8_fails wsX8_fails) := goodIn_app (goodIn_of _ (by decide +kernel)) ggX8_holder_X8_fails
theorem dX8_holder_0 : decode cX8_holder 0 = .ok (.aload_n 0, 1) := by decide +kernel
theorem dX8_holder_1 : decode cX8_holder 1 = .ok (.iload_n 1, 1) := by decide +kernel
theorem dX8_holder_2 : decode cX8_holder 2 = .ok (.invokestatic 87, 3) := by decide +kernel
theorem dX8_holder_5 : decode cX8_holder 5 = .ok (.ifCond .eq 7, 3) := by decide +kernel
theorem dX8_holder_8 : decode cX8_holder 8 = .ok (.iconst 0, 1) := by decide +kernel
theorem dX8_holder_9 : decode cX8_holder 9 = .ok (.goto 4, 3) := by decide +kernel
theorem dX8_holder_12 : decode cX8_holder 12 = .ok (.iconst 1, 1) := by decide +kernel
theorem dX8_holder_13 : decode cX8_holder 13 = .ok (.invokevirtual 73, 3) := by decide +kernel
theorem dX8_holder_16 : decode cX8_holder 16 = .ok (.ifCond .eq 7, 3) := by decide +kernel
theorem dX8_holder_19 : decode cX8_holder 19 = .ok (.iconst 0, 1) := by decide +kernel
theorem dX8_holder_20 : decode cX8_holder 20 = .ok (.goto 9, 3) := by decide +kernel
theorem dX8_holder_23 : decode cX8_holder 23 = .ok (.aload_n 0, 1) := by decide +kernel
theorem dX8_holder_24 : decode cX8_holder 24 = .ok (.getfield 50, 3) := by decide +kernel
theorem dX8_holder_27 : decode cX8_holder 27 = .ok (.iload_n 1, 1) := by decide +kernel
theorem dX8_holder_28 : decode cX8_holder 28 = .ok (.iaload, 1) := by decide +kernel
theorem dX8_holder_29 : decode cX8_holder 29 = .ok (.ireturn, 1) := by decide +kernel
set_option maxRecDepth 20000 in
theorem ggX8_count_X8_isIn : GoodIn wsX8_count wsX8_isIn := goodIn_r _ [10] (by decide +kernel) (by decide +kernel)
set_option maxRecDepth 20000 in
theorem gX8_count_X8_isIn : GoodIn wsX8_count (va_wsS RX8 62 yX8_isIn wsX8_isIn) := goodIn_app (goodIn_of _ (by decide +kernel)) ggX8_count_X8_isIn
set_option maxRecDepth 20000 in
theorem ggX8_count_X8_fails : GoodIn wsX8_count wsX8_fails := goodIn_r _ [14, 15, 16, 17, 18, 19, 20, 21, 22, 23, 24, 25, 26, 27, 28, 29, 30, 31, 32, 33, 34, 35, 36, 37, 38, 39, 40, 41, 42, 43, 44] (by decide +kernel) (by decide +kernel)
set_option maxRecDepth 20000 in
theorem gX8_count_X8_fails : GoodIn wsX8_count (wsV RX8 73 RX8 yX8_fails wsX8_fails) := goodIn_app (goodIn_of _ (by decide +kernel)) ggX8_count_X8_fails
theorem dX8_count_0 : decode cX8_count 0 = .ok (.aload_n 0, 1) := by decide +kernel
theorem dX8_count_1 : decode cX8_count 1 = .ok (.iload_n 1, 1) := by decide +kernel
theorem dX8_count_2 : decode cX8_count 2 = .ok (.iconst 0, 1) := by decide +kernel
theorem dX8_count_3 : decode cX8_count 3 = .ok (.iconst 5, 1) := by decide +kernel
theorem dX8_count_4 : decode cX8_count 4 = .ok (.invokestatic 62, 3) := by decide +kernel
theorem dX8_count_7 : decode cX8_count 7 = .ok (.ifCond .eq 7, 3) := by decide +kernel
theorem dX8_count_10 : decode cX8_count 10 = .ok (.iconst 0, 1) := by decide +kernel
theorem dX8_count_11 : decode cX8_count 11 = .ok (.goto 4, 3) := by decide +kernel
theorem dX8_count_14 : decode cX8_count 14 = .ok (.iconst 1, 1) := by decide +kernel
theorem dX8_count_15 : decode cX8_count 15 = .ok (.invokevirtual 73, 3) := by decide +kernel
theorem dX8_count_18 : decode cX8_count 18 = .ok (.ifCond .eq 5, 3) := by decide +kernel
theorem dX8_count_21 : decode cX8_count 21 = .ok (.iconst 0, 1) := by decide +kernel
theorem dX8_count_22 : decode cX8_count 22 = .ok (.ireturn, 1) := by decide +kernel
theorem dX8_count_23 : decode cX8_count 23 = .ok (.iload_n 1, 1) := by decide +kernel
theorem dX8_count_24 : decode cX8_count 24 = .ok (.tableswitch 61 0 4 #[36, 41, 46, 51, 56], 36) := by decide +kernel
theorem dX8_count_60 : decode cX8_count 60 = .ok (.aload_n 0, 1) := by decide +kernel
theorem dX8_count_61 : decode cX8_count 61 = .ok (.getfield 117, 3) := by decide +kernel
theorem dX8_count_64 : decode cX8_count 64 = .ok (.ireturn, 1) := by decide +kernel
theorem dX8_count_65 : decode cX8_count 65 = .ok (.aload_n 0, 1) := by decide +kernel
theorem dX8_count_66 : decode cX8_count 66 = .ok (.getfield 146, 3) := by decide +kernel
theorem dX8_count_69 : decode cX8_count 69 = .ok (.ireturn, 1) := by decide +kernel
theorem dX8_count_70 : decode cX8_count 70 = .ok (.aload_n 0, 1) := by decide +kernel
theorem dX8_count_71 : decode cX8_count 71 = .ok (.getfield 123, 3) := by decide +kernel
theorem dX8_count_74 : decode cX8_count 74 = .ok (.ireturn, 1) := by decide +kernel
theorem dX8_count_75 : decode cX8_count 75 = .ok (.aload_n 0, 1) := by decide +kernel
theorem dX8_count_76 : decode cX8_count 76 = .ok (.getfield 126, 3) := by decide +kernel
theorem dX8_count_79 : decode cX8_count 79 = .ok (.ireturn, 1) := by decide +kernel
theorem dX8_count_80 : decode cX8_count 80 = .ok (.aload_n 0, 1) := by decide +kernel
theorem dX8_count_81 : decode cX8_count 81 = .ok (.getfield 96, 3) := by decide +kernel
theorem dX8_count_84 : decode cX8_count 84 = .ok (.ireturn, 1) := by decide +kernel
theorem dX8_count_85 : decode cX8_count 85 = .ok (.aload_n 0, 1) := by decide +kernel
theorem dX8_count_86 : decode cX8_count 86 = .ok (.getfield 120, 3) := by decide +kernel
theorem dX8_count_89 : decode cX8_count 89 = .ok (.ireturn, 1) := by decide +kernel
set_option maxRecDepth 20000 in
theorem ggX8_share_X8_isMask : GoodIn wsX8_share wsX8_isMask := goodIn_r _ [6, 7, 8, 5, 9] (by decide +kernel) (by decide +kernel)
set_option maxRecDepth 20000 in
theorem gX8_share_X8_isMask : GoodIn wsX8_share (va_wsS RX8 66 yX8_isMask wsX8_isMask) := goodIn_app (goodIn_of _ (by decide +kernel)) ggX8_share_X8_isMask
set_option maxRecDepth 20000 in
theorem ggX8_share_X8_fails : GoodIn wsX8_share wsX8_fails := goodIn_r _ [13, 14, 15, 16, 17, 18, 19, 20, 21, 22, 23, 24, 25, 26, 27, 28, 29, 30, 31, 32, 33, 34, 35, 36, 37, 38, 39, 40, 41, 42, 43] (by decide +kernel) (by decide +kernel)
set_option maxRecDepth 20000 in
theorem gX8_share_X8_fails : GoodIn wsX8_share (wsV RX8 73 RX8 yX8_fails wsX8_fails) := goodIn_app (goodIn_of _ (by decide +kernel)) ggX8_share_X8_fails
theorem dX8_share_0 : decode cX8_share 0 = .ok (.aload_n 0, 1) := by decide +kernel
theorem dX8_share_1 : decode cX8_share 1 = .ok (.iload_n 1, 1) := by decide +kernel
theorem dX8_share_2 : decode cX8_share 2 = .ok (.invokestatic 66, 3) := by decide +kernel
theorem dX8_share_5 : decode cX8_share 5 = .ok (.ifCond .eq 7, 3) := by decide +kernel
theorem dX8_share_8 : decode cX8_share 8 = .ok (.iconst 0, 1) := by decide +kernel
theorem dX8_share_9 : decode cX8_share 9 = .ok (.goto 4, 3) := by decide +kernel
theorem dX8_share_12 : decode cX8_share 12 = .ok (.iconst 1, 1) := by decide +kernel
theorem dX8_share_13 : decode cX8_share 13 = .ok (.invokevirtual 73, 3) := by decide +kernel
theorem dX8_share_16 : decode cX8_share 16 = .ok (.ifCond .eq 5, 3) := by decide +kernel
theorem dX8_share_19 : decode cX8_share 19 = .ok (.dconst 0, 1) := by decide +kernel
theorem dX8_share_20 : decode cX8_share 20 = .ok (.dreturn, 1) := by decide +kernel
theorem dX8_share_21 : decode cX8_share 21 = .ok (.iconst 0, 1) := by decide +kernel
theorem dX8_share_22 : decode cX8_share 22 = .ok (.istore_n 2, 1) := by decide +kernel
theorem dX8_share_23 : decode cX8_share 23 = .ok (.iconst 0, 1) := by decide +kernel
theorem dX8_share_24 : decode cX8_share 24 = .ok (.istore_n 3, 1) := by decide +kernel
theorem dX8_share_25 : decode cX8_share 25 = .ok (.iload_n 3, 1) := by decide +kernel
theorem dX8_share_26 : decode cX8_share 26 = .ok (.bipush 6, 2) := by decide +kernel
theorem dX8_share_28 : decode cX8_share 28 = .ok (.if_icmp .ge 18, 3) := by decide +kernel
theorem dX8_share_31 : decode cX8_share 31 = .ok (.iload_n 2, 1) := by decide +kernel
theorem dX8_share_32 : decode cX8_share 32 = .ok (.aload_n 0, 1) := by decide +kernel
theorem dX8_share_33 : decode cX8_share 33 = .ok (.getfield 40, 3) := by decide +kernel
theorem dX8_share_36 : decode cX8_share 36 = .ok (.iload_n 3, 1) := by decide +kernel
theorem dX8_share_37 : decode cX8_share 37 = .ok (.iaload, 1) := by decide +kernel
theorem dX8_share_38 : decode cX8_share 38 = .ok (.iadd, 1) := by decide +kernel
theorem dX8_share_39 : decode cX8_share 39 = .ok (.istore_n 2, 1) := by decide +kernel
theorem dX8_share_40 : decode cX8_share 40 = .ok (.iinc 3 1, 3) := by decide +kernel
theorem dX8_share_43 : decode cX8_share 43 = .ok (.goto (-18), 3) := by decide +kernel
theorem dX8_share_46 : decode cX8_share 46 = .ok (.iload_n 2, 1) := by decide +kernel
theorem dX8_share_47 : decode cX8_share 47 = .ok (.ifCond .ne 7, 3) := by decide +kernel
theorem dX8_share_50 : decode cX8_share 50 = .ok (.dconst 0, 1) := by decide +kernel
theorem dX8_share_51 : decode cX8_share 51 = .ok (.goto 19, 3) := by decide +kernel
theorem dX8_share_54 : decode cX8_share 54 = .ok (.aload_n 0, 1) := by decide +kernel
theorem dX8_share_55 : decode cX8_share 55 = .ok (.getfield 146, 3) := by decide +kernel
theorem dX8_share_58 : decode cX8_share 58 = .ok (.i2d, 1) := by decide +kernel
theorem dX8_share_59 : decode cX8_share 59 = .ok (.aload_n 0, 1) := by decide +kernel
theorem dX8_share_60 : decode cX8_share 60 = .ok (.getfield 40, 3) := by decide +kernel
theorem dX8_share_63 : decode cX8_share 63 = .ok (.iload_n 1, 1) := by decide +kernel
theorem dX8_share_64 : decode cX8_share 64 = .ok (.iaload, 1) := by decide +kernel
theorem dX8_share_65 : decode cX8_share 65 = .ok (.i2d, 1) := by decide +kernel
theorem dX8_share_66 : decode cX8_share 66 = .ok (.dmul, 1) := by decide +kernel
theorem dX8_share_67 : decode cX8_share 67 = .ok (.iload_n 2, 1) := by decide +kernel
theorem dX8_share_68 : decode cX8_share 68 = .ok (.i2d, 1) := by decide +kernel
theorem dX8_share_69 : decode cX8_share 69 = .ok (.ddiv, 1) := by decide +kernel
theorem dX8_share_70 : decode cX8_share 70 = .ok (.dreturn, 1) := by decide +kernel
theorem dJ9_max_7cf53_0 : decode cJ9_max_7cf53 0 = .ok (.iload_n 0, 1) := by decide +kernel
theorem dJ9_max_7cf53_1 : decode cJ9_max_7cf53 1 = .ok (.iload_n 1, 1) := by decide +kernel
theorem dJ9_max_7cf53_2 : decode cJ9_max_7cf53 2 = .ok (.if_icmp .lt 7, 3) := by decide +kernel
theorem dJ9_max_7cf53_5 : decode cJ9_max_7cf53 5 = .ok (.iload_n 0, 1) := by decide +kernel
theorem dJ9_max_7cf53_6 : decode cJ9_max_7cf53 6 = .ok (.goto 4, 3) := by decide +kernel
theorem dJ9_max_7cf53_9 : decode cJ9_max_7cf53 9 = .ok (.iload_n 1, 1) := by decide +kernel
theorem dJ9_max_7cf53_10 : decode cJ9_max_7cf53 10 = .ok (.ireturn, 1) := by decide +kernel
theorem dJ9_min_7cf53_0 : decode cJ9_min_7cf53 0 = .ok (.iload_n 0, 1) := by decide +kernel
theorem dJ9_min_7cf53_1 : decode cJ9_min_7cf53 1 = .ok (.iload_n 1, 1) := by decide +kernel
theorem dJ9_min_7cf53_2 : decode cJ9_min_7cf53 2 = .ok (.if_icmp .gt 7, 3) := by decide +kernel
theorem dJ9_min_7cf53_5 : decode cJ9_min_7cf53 5 = .ok (.iload_n 0, 1) := by decide +kernel
theorem dJ9_min_7cf53_6 : decode cJ9_min_7cf53 6 = .ok (.goto 4, 3) := by decide +kernel
theorem dJ9_min_7cf53_9 : decode cJ9_min_7cf53 9 = .ok (.iload_n 1, 1) := by decide +kernel
theorem dJ9_min_7cf53_10 : decode cJ9_min_7cf53 10 = .ok (.ireturn, 1) := by decide +kernel
theorem dJ7_fill_d0a16_0 : decode cJ7_fill_d0a16 0 = .ok (.iconst 0, 1) := by decide +kernel
theorem dJ7_fill_d0a16_1 : decode cJ7_fill_d0a16 1 = .ok (.istore_n 3, 1) := by decide +kernel
theorem dJ7_fill_d0a16_2 : decode cJ7_fill_d0a16 2 = .ok (.aload_n 0, 1) := by decide +kernel
theorem dJ7_fill_d0a16_3 : decode cJ7_fill_d0a16 3 = .ok (.arraylength, 1) := by decide +kernel
theorem dJ7_fill_d0a16_4 : decode cJ7_fill_d0a16 4 = .ok (.istore 4, 2) := by decide +kernel
theorem dJ7_fill_d0a16_6 : decode cJ7_fill_d0a16 6 = .ok (.iload_n 3, 1) := by decide +kernel
theorem dJ7_fill_d0a16_7 : decode cJ7_fill_d0a16 7 = .ok (.iload 4, 2) := by decide +kernel
theorem dJ7_fill_d0a16_9 : decode cJ7_fill_d0a16 9 = .ok (.if_icmp .ge 13, 3) := by decide +kernel
theorem dJ7_fill_d0a16_12 : decode cJ7_fill_d0a16 12 = .ok (.aload_n 0, 1) := by decide +kernel
theorem dJ7_fill_d0a16_13 : decode cJ7_fill_d0a16 13 = .ok (.iload_n 3, 1) := by decide +kernel
theorem dJ7_fill_d0a16_14 : decode cJ7_fill_d0a16 14 = .ok (.lload_n 1, 1) := by decide +kernel
theorem dJ7_fill_d0a16_15 : decode cJ7_fill_d0a16 15 = .ok (.lastore, 1) := by decide +kernel
theorem dJ7_fill_d0a16_16 : decode cJ7_fill_d0a16 16 = .ok (.iinc 3 1, 3) := by decide +kernel
theorem dJ7_fill_d0a16_19 : decode cJ7_fill_d0a16 19 = .ok (.goto (-13), 3) := by decide +kernel
theorem dJ7_fill_d0a16_22 : decode cJ7_fill_d0a16 22 = .ok (.return_, 1) := by decide +kernel
theorem dJ7_fill_53178_0 : decode cJ7_fill_53178 0 = .ok (.iconst 0, 1) := by decide +kernel
theorem dJ7_fill_53178_1 : decode cJ7_fill_53178 1 = .ok (.istore_n 2, 1) := by decide +kernel
theorem dJ7_fill_53178_2 : decode cJ7_fill_53178 2 = .ok (.aload_n 0, 1) := by decide +kernel
theorem dJ7_fill_53178_3 : decode cJ7_fill_53178 3 = .ok (.arraylength, 1) := by decide +kernel
theorem dJ7_fill_53178_4 : decode cJ7_fill_53178 4 = .ok (.istore_n 3, 1) := by decide +kernel
theorem dJ7_fill_53178_5 : decode cJ7_fill_53178 5 = .ok (.iload_n 2, 1) := by decide +kernel
theorem dJ7_fill_53178_6 : decode cJ7_fill_53178 6 = .ok (.iload_n 3, 1) := by decide +kernel
theorem dJ7_fill_53178_7 : decode cJ7_fill_53178 7 = .ok (.if_icmp .ge 13, 3) := by decide +kernel
theorem dJ7_fill_53178_10 : decode cJ7_fill_53178 10 = .ok (.aload_n 0, 1) := by decide +kernel
theorem dJ7_fill_53178_11 : decode cJ7_fill_53178 11 = .ok (.iload_n 2, 1) := by decide +kernel
theorem dJ7_fill_53178_12 : decode cJ7_fill_53178 12 = .ok (.iload_n 1, 1) := by decide +kernel
theorem dJ7_fill_53178_13 : decode cJ7_fill_53178 13 = .ok (.iastore, 1) := by decide +kernel
theorem dJ7_fill_53178_14 : decode cJ7_fill_53178 14 = .ok (.iinc 2 1, 3) := by decide +kernel
theorem dJ7_fill_53178_17 : decode cJ7_fill_53178 17 = .ok (.goto (-12), 3) := by decide +kernel
theorem dJ7_fill_53178_20 : decode cJ7_fill_53178 20 = .ok (.return_, 1) := by decide +kernel
set_option maxRecDepth 20000 in
theorem ggL_knows_X7_knows : GoodIn wsL_knows wsX7_knows := goodIn_ca (goodIn_r _ [6, 7, 8, 9, 5, 10, 11, 12, 13, 14, 15, 16, 17, 18, 19, 20, 21, 22, 23, 24, 25, 26, 27, 28, 29, 30, 31, 32, 33, 34, 35, 36, 37, 38, 39, 40, 41, 42, 43, 44, 45, 46, 47, 48, 49] (by decide +kernel) (by decide +kernel)) (goodIn_sub (fun _ h => List.mem_cons_of_mem _ (List.mem_append_right _ h)) (by decide +kernel))
set_option maxRecDepth 20000 in
theorem gL_knows_X7_knows : GoodIn wsL_knows (wsV RL 7 RX7 yX7_knows wsX7_knows) := goodIn_app (goodIn_of _ (by decide +kernel)) ggL_knows_X7_knows
