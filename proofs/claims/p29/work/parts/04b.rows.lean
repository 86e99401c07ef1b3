theorem dX6_casesAfterTelling_68 : decode cX6_casesAfterTelling 68 = .ok (.land, 1) := by decide +kernel
theorem dX6_casesAfterTelling_69 : decode cX6_casesAfterTelling 69 = .ok (.iconst 1, 1) := by decide +kernel
theorem dX6_casesAfterTelling_70 : decode cX6_casesAfterTelling 70 = .ok (.iload 6, 2) := by decide +kernel
theorem dX6_casesAfterTelling_72 : decode cX6_casesAfterTelling 72 = .ok (.ishl, 1) := by decide +kernel
theorem dX6_casesAfterTelling_73 : decode cX6_casesAfterTelling 73 = .ok (.lshl, 1) := by decide +kernel
theorem dX6_casesAfterTelling_74 : decode cX6_casesAfterTelling 74 = .ok (.lor, 1) := by decide +kernel
theorem dX6_casesAfterTelling_75 : decode cX6_casesAfterTelling 75 = .ok (.lstore_n 3, 1) := by decide +kernel
theorem dX6_casesAfterTelling_76 : decode cX6_casesAfterTelling 76 = .ok (.iinc 6 1, 3) := by decide +kernel
theorem dX6_casesAfterTelling_79 : decode cX6_casesAfterTelling 79 = .ok (.goto (-64), 3) := by decide +kernel
theorem dX6_casesAfterTelling_82 : decode cX6_casesAfterTelling 82 = .ok (.iinc 5 1, 3) := by decide +kernel
theorem dX6_casesAfterTelling_85 : decode cX6_casesAfterTelling 85 = .ok (.goto (-80), 3) := by decide +kernel
theorem dX6_casesAfterTelling_88 : decode cX6_casesAfterTelling 88 = .ok (.lload_n 3, 1) := by decide +kernel
theorem dX6_casesAfterTelling_89 : decode cX6_casesAfterTelling 89 = .ok (.lreturn, 1) := by decide +kernel
theorem dX6_casesAfterGiving_0 : decode cX6_casesAfterGiving 0 = .ok (.iload_n 1, 1) := by decide +kernel
theorem dX6_casesAfterGiving_1 : decode cX6_casesAfterGiving 1 = .ok (.i2l, 1) := by decide +kernel
theorem dX6_casesAfterGiving_2 : decode cX6_casesAfterGiving 2 = .ok (.iconst 1, 1) := by decide +kernel
theorem dX6_casesAfterGiving_3 : decode cX6_casesAfterGiving 3 = .ok (.lshl, 1) := by decide +kernel
theorem dX6_casesAfterGiving_4 : decode cX6_casesAfterGiving 4 = .ok (.lstore_n 2, 1) := by decide +kernel
theorem dX6_casesAfterGiving_5 : decode cX6_casesAfterGiving 5 = .ok (.lconst 1, 1) := by decide +kernel
theorem dX6_casesAfterGiving_6 : decode cX6_casesAfterGiving 6 = .ok (.lstore 4, 2) := by decide +kernel
theorem dX6_casesAfterGiving_8 : decode cX6_casesAfterGiving 8 = .ok (.aload_n 0, 1) := by decide +kernel
theorem dX6_casesAfterGiving_9 : decode cX6_casesAfterGiving 9 = .ok (.getfield 15, 3) := by decide +kernel
theorem dX6_casesAfterGiving_12 : decode cX6_casesAfterGiving 12 = .ok (.iload_n 1, 1) := by decide +kernel
theorem dX6_casesAfterGiving_13 : decode cX6_casesAfterGiving 13 = .ok (.laload, 1) := by decide +kernel
theorem dX6_casesAfterGiving_14 : decode cX6_casesAfterGiving 14 = .ok (.lload_n 2, 1) := by decide +kernel
theorem dX6_casesAfterGiving_15 : decode cX6_casesAfterGiving 15 = .ok (.lload 4, 2) := by decide +kernel
theorem dX6_casesAfterGiving_17 : decode cX6_casesAfterGiving 17 = .ok (.lor, 1) := by decide +kernel
theorem dX6_casesAfterGiving_18 : decode cX6_casesAfterGiving 18 = .ok (.land, 1) := by decide +kernel
theorem dX6_casesAfterGiving_19 : decode cX6_casesAfterGiving 19 = .ok (.lconst 0, 1) := by decide +kernel
theorem dX6_casesAfterGiving_20 : decode cX6_casesAfterGiving 20 = .ok (.lcmp, 1) := by decide +kernel
theorem dX6_casesAfterGiving_21 : decode cX6_casesAfterGiving 21 = .ok (.ifCond .eq 7, 3) := by decide +kernel
theorem dX6_casesAfterGiving_24 : decode cX6_casesAfterGiving 24 = .ok (.lload_n 2, 1) := by decide +kernel
theorem dX6_casesAfterGiving_25 : decode cX6_casesAfterGiving 25 = .ok (.goto 4, 3) := by decide +kernel
theorem dX6_casesAfterGiving_28 : decode cX6_casesAfterGiving 28 = .ok (.lconst 0, 1) := by decide +kernel
theorem dX6_casesAfterGiving_29 : decode cX6_casesAfterGiving 29 = .ok (.lreturn, 1) := by decide +kernel
set_option maxRecDepth 20000 in
theorem ggX7_init_X0_init : GoodIn wsX7_init wsX0_init := goodIn_r _ [37, 38, 2, 3, 32, 39, 40, 41, 42, 91, 92, 93, 94, 95] (by decide +kernel) (by decide +kernel)
set_option maxRecDepth 20000 in
theorem gX7_init_X0_init_n9 : GoodIn wsX7_init (wsX0_init) := ggX7_init_X0_init
set_option maxRecDepth 20000 in
theorem ggX7_init_X2_init : GoodIn wsX7_init wsX2_init := goodIn_r _ [45, 46, 2, 3, 32, 47, 48, 49, 50, 51, 52, 112, 113] (by decide +kernel) (by decide +kernel)
set_option maxRecDepth 20000 in
theorem gX7_init_X2_init : GoodIn wsX7_init (wsX2_init) := ggX7_init_X2_init
set_option maxRecDepth 20000 in
theorem ggX7_init_X5_init : GoodIn wsX7_init wsX5_init := goodIn_r _ [54, 55, 2, 3, 56, 9, 10, 57, 58, 44, 45, 46, 32, 47, 48, 49, 50, 51, 52, 112, 113, 114, 115, 116, 117] (by decide +kernel) (by decide +kernel)
set_option maxRecDepth 20000 in
theorem gX7_init_X5_init_n25 : GoodIn wsX7_init (wsX5_init) := ggX7_init_X5_init
set_option maxRecDepth 20000 in
theorem ggX7_init_X3_init : GoodIn wsX7_init wsX3_init := goodIn_r _ [61, 62, 2, 3, 63, 9, 10, 64, 65, 66, 67, 44, 45, 46, 32, 47, 48, 49, 50, 51, 52, 112, 113, 118, 119, 120] (by decide +kernel) (by decide +kernel)
set_option maxRecDepth 20000 in
theorem gX7_init_X3_init : GoodIn wsX7_init (wsX3_init) := ggX7_init_X3_init
set_option maxRecDepth 20000 in
theorem ggX7_init_X4_init : GoodIn wsX7_init wsX4_init := goodIn_r _ [70, 71, 2, 3, 72, 73, 121, 122] (by decide +kernel) (by decide +kernel)
set_option maxRecDepth 20000 in
theorem gX7_init_X4_init : GoodIn wsX7_init (wsX4_init) := ggX7_init_X4_init
set_option maxRecDepth 20000 in
theorem ggX7_init_X6_init : GoodIn wsX7_init wsX6_init := goodIn_r _ [76, 77, 2, 3, 78, 79, 80, 81, 82, 123, 124, 125, 126] (by decide +kernel) (by decide +kernel)
set_option maxRecDepth 20000 in
theorem gX7_init_X6_init : GoodIn wsX7_init (wsX6_init) := ggX7_init_X6_init
set_option maxRecDepth 20000 in
theorem ggX7_init_X1_init : GoodIn wsX7_init wsX1_init := goodIn_r _ [84, 85, 2, 3, 32, 86, 87, 88, 89, 127, 128, 129, 130, 131] (by decide +kernel) (by decide +kernel)
set_option maxRecDepth 20000 in
theorem gX7_init_X1_init_n55 : GoodIn wsX7_init (wsX1_init) := ggX7_init_X1_init
set_option maxRecDepth 20000 in
theorem ggX7_init_J7_fill_53178 : GoodIn wsX7_init wsJ7_fill_53178 := goodIn_r _ [52] (by decide +kernel) (by decide +kernel)
set_option maxRecDepth 20000 in
theorem gX7_init_J7_fill_53178 : GoodIn wsX7_init (va_wsS RX7 64 yJ7_fill_53178 wsJ7_fill_53178) := goodIn_app (goodIn_of _ (by decide +kernel)) ggX7_init_J7_fill_53178
theorem dX7_init_0 : decode cX7_init 0 = .ok (.aload_n 0, 1) := by decide +kernel
theorem dX7_init_1 : decode cX7_init 1 = .ok (.invokespecial 1, 3) := by decide +kernel
theorem dX7_init_4 : decode cX7_init 4 = .ok (.aload_n 0, 1) := by decide +kernel
theorem dX7_init_5 : decode cX7_init 5 = .ok (.new 7, 3) := by decide +kernel
theorem dX7_init_8 : decode cX7_init 8 = .ok (.dup, 1) := by decide +kernel
theorem dX7_init_9 : decode cX7_init 9 = .ok (.invokespecial 9, 3) := by decide +kernel
theorem dX7_init_12 : decode cX7_init 12 = .ok (.putfield 10, 3) := by decide +kernel
theorem dX7_init_15 : decode cX7_init 15 = .ok (.aload_n 0, 1) := by decide +kernel
theorem dX7_init_16 : decode cX7_init 16 = .ok (.new 16, 3) := by decide +kernel
theorem dX7_init_19 : decode cX7_init 19 = .ok (.dup, 1) := by decide +kernel
theorem dX7_init_20 : decode cX7_init 20 = .ok (.invokespecial 18, 3) := by decide +kernel
theorem dX7_init_23 : decode cX7_init 23 = .ok (.putfield 19, 3) := by decide +kernel
theorem dX7_init_26 : decode cX7_init 26 = .ok (.aload_n 0, 1) := by decide +kernel
theorem dX7_init_27 : decode cX7_init 27 = .ok (.new 23, 3) := by decide +kernel
theorem dX7_init_30 : decode cX7_init 30 = .ok (.dup, 1) := by decide +kernel
theorem dX7_init_31 : decode cX7_init 31 = .ok (.invokespecial 25, 3) := by decide +kernel
theorem dX7_init_34 : decode cX7_init 34 = .ok (.putfield 26, 3) := by decide +kernel
theorem dX7_init_37 : decode cX7_init 37 = .ok (.aload_n 0, 1) := by decide +kernel
theorem dX7_init_38 : decode cX7_init 38 = .ok (.new 30, 3) := by decide +kernel
theorem dX7_init_41 : decode cX7_init 41 = .ok (.dup, 1) := by decide +kernel
theorem dX7_init_42 : decode cX7_init 42 = .ok (.aload_n 0, 1) := by decide +kernel
theorem dX7_init_43 : decode cX7_init 43 = .ok (.getfield 10, 3) := by decide +kernel
theorem dX7_init_46 : decode cX7_init 46 = .ok (.aload_n 0, 1) := by decide +kernel
theorem dX7_init_47 : decode cX7_init 47 = .ok (.getfield 26, 3) := by decide +kernel
theorem dX7_init_50 : decode cX7_init 50 = .ok (.invokespecial 32, 3) := by decide +kernel
theorem dX7_init_53 : decode cX7_init 53 = .ok (.putfield 35, 3) := by decide +kernel
theorem dX7_init_56 : decode cX7_init 56 = .ok (.aload_n 0, 1) := by decide +kernel
theorem dX7_init_57 : decode cX7_init 57 = .ok (.new 39, 3) := by decide +kernel
theorem dX7_init_60 : decode cX7_init 60 = .ok (.dup, 1) := by decide +kernel
theorem dX7_init_61 : decode cX7_init 61 = .ok (.aload_n 0, 1) := by decide +kernel
theorem dX7_init_62 : decode cX7_init 62 = .ok (.getfield 10, 3) := by decide +kernel
theorem dX7_init_65 : decode cX7_init 65 = .ok (.aload_n 0, 1) := by decide +kernel
theorem dX7_init_66 : decode cX7_init 66 = .ok (.getfield 26, 3) := by decide +kernel
theorem dX7_init_69 : decode cX7_init 69 = .ok (.invokespecial 41, 3) := by decide +kernel
theorem dX7_init_72 : decode cX7_init 72 = .ok (.putfield 42, 3) := by decide +kernel
theorem dX7_init_75 : decode cX7_init 75 = .ok (.aload_n 0, 1) := by decide +kernel
theorem dX7_init_76 : decode cX7_init 76 = .ok (.new 46, 3) := by decide +kernel
theorem dX7_init_79 : decode cX7_init 79 = .ok (.dup, 1) := by decide +kernel
theorem dX7_init_80 : decode cX7_init 80 = .ok (.aload_n 0, 1) := by decide +kernel
theorem dX7_init_81 : decode cX7_init 81 = .ok (.getfield 10, 3) := by decide +kernel
theorem dX7_init_84 : decode cX7_init 84 = .ok (.aload_n 0, 1) := by decide +kernel
theorem dX7_init_85 : decode cX7_init 85 = .ok (.getfield 26, 3) := by decide +kernel
theorem dX7_init_88 : decode cX7_init 88 = .ok (.invokespecial 48, 3) := by decide +kernel
theorem dX7_init_91 : decode cX7_init 91 = .ok (.putfield 49, 3) := by decide +kernel
theorem dX7_init_94 : decode cX7_init 94 = .ok (.aload_n 0, 1) := by decide +kernel
theorem dX7_init_95 : decode cX7_init 95 = .ok (.new 53, 3) := by decide +kernel
theorem dX7_init_98 : decode cX7_init 98 = .ok (.dup, 1) := by decide +kernel
theorem dX7_init_99 : decode cX7_init 99 = .ok (.invokespecial 55, 3) := by decide +kernel
theorem dX7_init_102 : decode cX7_init 102 = .ok (.putfield 56, 3) := by decide +kernel
theorem dX7_init_105 : decode cX7_init 105 = .ok (.aload_n 0, 1) := by decide +kernel
theorem dX7_init_106 : decode cX7_init 106 = .ok (.bipush 6, 2) := by decide +kernel
theorem dX7_init_108 : decode cX7_init 108 = .ok (.newarray .int, 2) := by decide +kernel
theorem dX7_init_110 : decode cX7_init 110 = .ok (.putfield 60, 3) := by decide +kernel
theorem dX7_init_113 : decode cX7_init 113 = .ok (.aload_n 0, 1) := by decide +kernel
theorem dX7_init_114 : decode cX7_init 114 = .ok (.getfield 60, 3) := by decide +kernel
theorem dX7_init_117 : decode cX7_init 117 = .ok (.iconst 1, 1) := by decide +kernel
theorem dX7_init_118 : decode cX7_init 118 = .ok (.invokestatic 64, 3) := by decide +kernel
theorem dX7_init_121 : decode cX7_init 121 = .ok (.aload_n 0, 1) := by decide +kernel
theorem dX7_init_122 : decode cX7_init 122 = .ok (.iconst 0, 1) := by decide +kernel
theorem dX7_init_123 : decode cX7_init 123 = .ok (.putfield 70, 3) := by decide +kernel
theorem dX7_init_126 : decode cX7_init 126 = .ok (.aload_n 0, 1) := by decide +kernel
theorem dX7_init_127 : decode cX7_init 127 = .ok (.iconst (-1), 1) := by decide +kernel
theorem dX7_init_128 : decode cX7_init 128 = .ok (.putfield 74, 3) := by decide +kernel
theorem dX7_init_131 : decode cX7_init 131 = .ok (.return_, 1) := by decide +kernel
set_option maxRecDepth 20000 in
theorem ggX7_knows_X7_needMask : GoodIn wsX7_knows wsX7_needMask := goodIn_ca (goodIn_r _ [5, 6, 7] (by decide +kernel) (by decide +kernel)) (goodIn_sub (fun _ h => List.mem_cons_of_mem _ (List.mem_append_right _ h)) (by decide +kernel))
set_option maxRecDepth 20000 in
theorem gX7_knows_X7_needMask : GoodIn wsX7_knows (va_wsS RX7 77 yX7_needMask wsX7_needMask) := goodIn_app (goodIn_of _ (by decide +kernel)) ggX7_knows_X7_needMask
set_option maxRecDepth 20000 in
theorem ggX7_knows_X7_needSecret : GoodIn wsX7_knows wsX7_needSecret := goodIn_ca (goodIn_r _ [10, 6, 7] (by decide +kernel) (by decide +kernel)) (goodIn_sub (fun _ h => List.mem_cons_of_mem _ (List.mem_append_right _ h)) (by decide +kernel))
set_option maxRecDepth 20000 in
theorem gX7_knows_X7_needSecret : GoodIn wsX7_knows (va_wsS RX7 81 yX7_needSecret wsX7_needSecret) := goodIn_app (goodIn_of _ (by decide +kernel)) ggX7_knows_X7_needSecret
set_option maxRecDepth 20000 in
theorem ggX7_knows_X2_isKnower : GoodIn wsX7_knows wsX2_isKnower := goodIn_r _ [15, 16, 17, 4, 18, 43, 44] (by decide +kernel) (by decide +kernel)
set_option maxRecDepth 20000 in
theorem gX7_knows_X2_isKnower : GoodIn wsX7_knows (wsV RX7 84 RX2 yX2_isKnower wsX2_isKnower) := goodIn_app (goodIn_of _ (by decide +kernel)) ggX7_knows_X2_isKnower
set_option maxRecDepth 20000 in
theorem ggX7_knows_X2_learn : GoodIn wsX7_knows wsX2_learn := goodIn_r _ [22, 16, 43, 44] (by decide +kernel) (by decide +kernel)
set_option maxRecDepth 20000 in
theorem gX7_knows_X2_learn : GoodIn wsX7_knows (wsV RX7 88 RX2 yX2_learn wsX2_learn) := goodIn_app (goodIn_of _ (by decide +kernel)) ggX7_knows_X2_learn
set_option maxRecDepth 20000 in
theorem ggX7_knows_X2_forget : GoodIn wsX7_knows wsX2_forget := goodIn_r _ [26, 16, 43, 44] (by decide +kernel) (by decide +kernel)
set_option maxRecDepth 20000 in
theorem gX7_knows_X2_forget : GoodIn wsX7_knows (wsV RX7 92 RX2 yX2_forget wsX2_forget) := goodIn_app (goodIn_of _ (by decide +kernel)) ggX7_knows_X2_forget
theorem dX7_knows_0 : decode cX7_knows 0 = .ok (.iload_n 1, 1) := by decide +kernel
theorem dX7_knows_1 : decode cX7_knows 1 = .ok (.invokestatic 77, 3) := by decide +kernel
theorem dX7_knows_4 : decode cX7_knows 4 = .ok (.iload_n 2, 1) := by decide +kernel
theorem dX7_knows_5 : decode cX7_knows 5 = .ok (.invokestatic 81, 3) := by decide +kernel
theorem dX7_knows_8 : decode cX7_knows 8 = .ok (.aload_n 0, 1) := by decide +kernel
theorem dX7_knows_9 : decode cX7_knows 9 = .ok (.getfield 19, 3) := by decide +kernel
theorem dX7_knows_12 : decode cX7_knows 12 = .ok (.iload_n 1, 1) := by decide +kernel
theorem dX7_knows_13 : decode cX7_knows 13 = .ok (.iload_n 2, 1) := by decide +kernel
theorem dX7_knows_14 : decode cX7_knows 14 = .ok (.invokevirtual 84, 3) := by decide +kernel
theorem dX7_knows_17 : decode cX7_knows 17 = .ok (.istore 4, 2) := by decide +kernel
theorem dX7_knows_19 : decode cX7_knows 19 = .ok (.iload_n 3, 1) := by decide +kernel
theorem dX7_knows_20 : decode cX7_knows 20 = .ok (.ifCond .eq 15, 3) := by decide +kernel
theorem dX7_knows_23 : decode cX7_knows 23 = .ok (.aload_n 0, 1) := by decide +kernel
theorem dX7_knows_24 : decode cX7_knows 24 = .ok (.getfield 19, 3) := by decide +kernel
theorem dX7_knows_27 : decode cX7_knows 27 = .ok (.iload_n 1, 1) := by decide +kernel
theorem dX7_knows_28 : decode cX7_knows 28 = .ok (.iload_n 2, 1) := by decide +kernel
theorem dX7_knows_29 : decode cX7_knows 29 = .ok (.invokevirtual 88, 3) := by decide +kernel
theorem dX7_knows_32 : decode cX7_knows 32 = .ok (.goto 12, 3) := by decide +kernel
theorem dX7_knows_35 : decode cX7_knows 35 = .ok (.aload_n 0, 1) := by decide +kernel
theorem dX7_knows_36 : decode cX7_knows 36 = .ok (.getfield 19, 3) := by decide +kernel
theorem dX7_knows_39 : decode cX7_knows 39 = .ok (.iload_n 1, 1) := by decide +kernel
theorem dX7_knows_40 : decode cX7_knows 40 = .ok (.iload_n 2, 1) := by decide +kernel
theorem dX7_knows_41 : decode cX7_knows 41 = .ok (.invokevirtual 92, 3) := by decide +kernel
theorem dX7_knows_44 : decode cX7_knows 44 = .ok (.iload 4, 2) := by decide +kernel
theorem dX7_knows_46 : decode cX7_knows 46 = .ok (.ireturn, 1) := by decide +kernel
set_option maxRecDepth 20000 in
theorem ggX7_has_X7_needProp : GoodIn wsX7_has wsX7_needProp := goodIn_ca (goodIn_r _ [6, 7, 8] (by decide +kernel) (by decide +kernel)) (goodIn_sub (fun _ h => List.mem_cons_of_mem _ (List.mem_append_right _ h)) (by decide +kernel))
set_option maxRecDepth 20000 in
theorem gX7_has_X7_needProp : GoodIn wsX7_has (va_wsS RX7 95 yX7_needProp wsX7_needProp) := goodIn_app (goodIn_of _ (by decide +kernel)) ggX7_has_X7_needProp
set_option maxRecDepth 20000 in
theorem ggX7_has_X7_needMask : GoodIn wsX7_has wsX7_needMask := goodIn_ca (goodIn_r _ [11, 7, 8] (by decide +kernel) (by decide +kernel)) (goodIn_sub (fun _ h => List.mem_cons_of_mem _ (List.mem_append_right _ h)) (by decide +kernel))
set_option maxRecDepth 20000 in
theorem gX7_has_X7_needMask : GoodIn wsX7_has (va_wsS RX7 77 yX7_needMask wsX7_needMask) := goodIn_app (goodIn_of _ (by decide +kernel)) ggX7_has_X7_needMask
theorem dX7_has_0 : decode cX7_has 0 = .ok (.iload_n 1, 1) := by decide +kernel
theorem dX7_has_1 : decode cX7_has 1 = .ok (.invokestatic 95, 3) := by decide +kernel
theorem dX7_has_4 : decode cX7_has 4 = .ok (.iload_n 2, 1) := by decide +kernel
theorem dX7_has_5 : decode cX7_has 5 = .ok (.iconst (-1), 1) := by decide +kernel
theorem dX7_has_6 : decode cX7_has 6 = .ok (.if_icmp .eq 7, 3) := by decide +kernel
theorem dX7_has_9 : decode cX7_has 9 = .ok (.iload_n 2, 1) := by decide +kernel
theorem dX7_has_10 : decode cX7_has 10 = .ok (.invokestatic 77, 3) := by decide +kernel
theorem dX7_has_13 : decode cX7_has 13 = .ok (.aload_n 0, 1) := by decide +kernel
theorem dX7_has_14 : decode cX7_has 14 = .ok (.getfield 19, 3) := by decide +kernel
theorem dX7_has_17 : decode cX7_has 17 = .ok (.getfield 98, 3) := by decide +kernel
theorem dX7_has_20 : decode cX7_has 20 = .ok (.iload_n 1, 1) := by decide +kernel
theorem dX7_has_21 : decode cX7_has 21 = .ok (.iaload, 1) := by decide +kernel
theorem dX7_has_22 : decode cX7_has 22 = .ok (.istore_n 3, 1) := by decide +kernel
theorem dX7_has_23 : decode cX7_has 23 = .ok (.aload_n 0, 1) := by decide +kernel
theorem dX7_has_24 : decode cX7_has 24 = .ok (.getfield 19, 3) := by decide +kernel
theorem dX7_has_27 : decode cX7_has 27 = .ok (.getfield 98, 3) := by decide +kernel
theorem dX7_has_30 : decode cX7_has 30 = .ok (.iload_n 1, 1) := by decide +kernel
theorem dX7_has_31 : decode cX7_has 31 = .ok (.iload_n 2, 1) := by decide +kernel
theorem dX7_has_32 : decode cX7_has 32 = .ok (.iastore, 1) := by decide +kernel
theorem dX7_has_33 : decode cX7_has 33 = .ok (.iload_n 3, 1) := by decide +kernel
theorem dX7_has_34 : decode cX7_has 34 = .ok (.ireturn, 1) := by decide +kernel
set_option maxRecDepth 20000 in
theorem ggX7_step_X7_needMask : GoodIn wsX7_step wsX7_needMask := goodIn_ca (goodIn_r _ [8, 9, 10] (by decide +kernel) (by decide +kernel)) (goodIn_sub (fun _ h => List.mem_cons_of_mem _ (List.mem_append_left _ (List.mem_append_right _ h))) (by decide +kernel))
set_option maxRecDepth 20000 in
theorem gX7_step_X7_needMask : GoodIn wsX7_step (va_wsS RX7 77 yX7_needMask wsX7_needMask) := goodIn_app (goodIn_of _ (by decide +kernel)) ggX7_step_X7_needMask
set_option maxRecDepth 20000 in
theorem ggX7_step_X7_needSecret : GoodIn wsX7_step wsX7_needSecret := goodIn_ca (goodIn_r _ [13, 9, 10] (by decide +kernel) (by decide +kernel)) (goodIn_sub (fun _ h => List.mem_cons_of_mem _ (List.mem_append_left _ (List.mem_append_right _ h))) (by decide +kernel))
set_option maxRecDepth 20000 in
theorem gX7_step_X7_needSecret : GoodIn wsX7_step (va_wsS RX7 81 yX7_needSecret wsX7_needSecret) := goodIn_app (goodIn_of _ (by decide +kernel)) ggX7_step_X7_needSecret
set_option maxRecDepth 20000 in
theorem ggX7_step_X7_needRange : GoodIn wsX7_step wsX7_needRange := goodIn_ca (goodIn_r _ [16, 17, 18] (by decide +kernel) (by decide +kernel)) (goodIn_sub (fun _ h => List.mem_cons_of_mem _ (List.mem_append_right _ h)) (by decide +kernel))
set_option maxRecDepth 20000 in
theorem gX7_step_X7_needRange : GoodIn wsX7_step (va_wsS RX7 101 yX7_needRange wsX7_needRange) := goodIn_app (goodIn_of _ (by decide +kernel)) ggX7_step_X7_needRange
set_option maxRecDepth 20000 in
theorem ggX7_step_X7_needUnlike : GoodIn wsX7_step wsX7_needUnlike := goodIn_ca (goodIn_r _ [21, 17, 18] (by decide +kernel) (by decide +kernel)) (goodIn_sub (fun _ h => List.mem_cons_of_mem _ (List.mem_append_right _ h)) (by decide +kernel))
set_option maxRecDepth 20000 in
theorem gX7_step_X7_needUnlike : GoodIn wsX7_step (va_wsS RX7 105 yX7_needUnlike wsX7_needUnlike) := goodIn_app (goodIn_of _ (by decide +kernel)) ggX7_step_X7_needUnlike
set_option maxRecDepth 20000 in
theorem ggX7_step_X7_needNoPlay : GoodIn wsX7_step wsX7_needNoPlay := goodIn_ca (goodIn_r _ [25, 1, 2, 26, 37, 38, 39, 40, 41, 42, 43, 44, 45, 46, 47, 48, 49, 50, 51, 52] (by decide +kernel) (by decide +kernel)) (goodIn_sub (fun _ h => List.mem_cons_of_mem _ (List.mem_append_left _ (List.mem_append_left _ (List.mem_append_right _ h)))) (by decide +kernel))
set_option maxRecDepth 20000 in
theorem gX7_step_X7_needNoPlay : GoodIn wsX7_step (wsV RX7 108 RX7 yX7_needNoPlay wsX7_needNoPlay) := goodIn_app (goodIn_of _ (by decide +kernel)) ggX7_step_X7_needNoPlay
set_option maxRecDepth 20000 in
theorem ggX7_step_X0_add : GoodIn wsX7_step wsX0_add := goodIn_r _ [31, 32, 33, 34, 35, 36, 53, 54, 55, 56, 57] (by decide +kernel) (by decide +kernel)
set_option maxRecDepth 20000 in
theorem gX7_step_X0_add : GoodIn wsX7_step (wsV RX7 121 RX0 yX0_add wsX0_add) := goodIn_app (goodIn_of _ (by decide +kernel)) ggX7_step_X0_add
theorem dX7_step_0 : decode cX7_step 0 = .ok (.iload_n 2, 1) := by decide +kernel
theorem dX7_step_1 : decode cX7_step 1 = .ok (.invokestatic 77, 3) := by decide +kernel
theorem dX7_step_4 : decode cX7_step 4 = .ok (.iload_n 3, 1) := by decide +kernel
theorem dX7_step_5 : decode cX7_step 5 = .ok (.invokestatic 77, 3) := by decide +kernel
theorem dX7_step_8 : decode cX7_step 8 = .ok (.iload 4, 2) := by decide +kernel
theorem dX7_step_10 : decode cX7_step 10 = .ok (.invokestatic 81, 3) := by decide +kernel
theorem dX7_step_13 : decode cX7_step 13 = .ok (.iload_n 1, 1) := by decide +kernel
theorem dX7_step_14 : decode cX7_step 14 = .ok (.iconst 0, 1) := by decide +kernel
theorem dX7_step_15 : decode cX7_step 15 = .ok (.iconst 4, 1) := by decide +kernel
theorem dX7_step_16 : decode cX7_step 16 = .ok (.invokestatic 101, 3) := by decide +kernel
theorem dX7_step_19 : decode cX7_step 19 = .ok (.iload_n 2, 1) := by decide +kernel
theorem dX7_step_20 : decode cX7_step 20 = .ok (.iload_n 3, 1) := by decide +kernel
theorem dX7_step_21 : decode cX7_step 21 = .ok (.invokestatic 105, 3) := by decide +kernel
theorem dX7_step_24 : decode cX7_step 24 = .ok (.aload_n 0, 1) := by decide +kernel
theorem dX7_step_25 : decode cX7_step 25 = .ok (.invokevirtual 108, 3) := by decide +kernel
theorem dX7_step_28 : decode cX7_step 28 = .ok (.aload_n 0, 1) := by decide +kernel
theorem dX7_step_29 : decode cX7_step 29 = .ok (.getfield 10, 3) := by decide +kernel
theorem dX7_step_32 : decode cX7_step 32 = .ok (.getfield 111, 3) := by decide +kernel
theorem dX7_step_35 : decode cX7_step 35 = .ok (.bipush 12, 2) := by decide +kernel
theorem dX7_step_37 : decode cX7_step 37 = .ok (.if_icmp .lt 13, 3) := by decide +kernel
theorem dX7_step_40 : decode cX7_step 40 = .ok (.new 114, 3) := by decide +kernel
theorem dX7_step_43 : decode cX7_step 43 = .ok (.dup, 1) := by decide +kernel
theorem dX7_step_44 : decode cX7_step 44 = .ok (.ldc 116, 2) := by decide +kernel
theorem dX7_step_46 : decode cX7_step 46 = .ok (.invokespecial 118, 3) := by decide +kernel
theorem dX7_step_49 : decode cX7_step 49 = .ok (.athrow, 1) := by decide +kernel
theorem dX7_step_50 : decode cX7_step 50 = .ok (.aload_n 0, 1) := by decide +kernel
theorem dX7_step_51 : decode cX7_step 51 = .ok (.getfield 10, 3) := by decide +kernel
theorem dX7_step_54 : decode cX7_step 54 = .ok (.iload_n 1, 1) := by decide +kernel
theorem dX7_step_55 : decode cX7_step 55 = .ok (.iload_n 2, 1) := by decide +kernel
theorem dX7_step_56 : decode cX7_step 56 = .ok (.iload_n 3, 1) := by decide +kernel
theorem dX7_step_57 : decode cX7_step 57 = .ok (.iload 4, 2) := by decide +kernel
theorem dX7_step_59 : decode cX7_step 59 = .ok (.invokevirtual 121, 3) := by decide +kernel
theorem dX7_step_62 : decode cX7_step 62 = .ok (.aload_n 0, 1) := by decide +kernel
theorem dX7_step_63 : decode cX7_step 63 = .ok (.getfield 10, 3) := by decide +kernel
theorem dX7_step_66 : decode cX7_step 66 = .ok (.getfield 111, 3) := by decide +kernel
theorem dX7_step_69 : decode cX7_step 69 = .ok (.ireturn, 1) := by decide +kernel
set_option maxRecDepth 20000 in
theorem ggX7_tear_X7_needNoPlay : GoodIn wsX7_tear wsX7_needNoPlay := goodIn_ca (goodIn_r _ [7, 8, 9, 10, 11, 12, 13, 14, 15, 16, 17, 18, 19, 20, 21, 22, 23, 24, 25, 26] (by decide +kernel) (by decide +kernel)) (goodIn_sub (fun _ h => List.mem_cons_of_mem _ (List.mem_append_right _ h)) (by decide +kernel))
set_option maxRecDepth 20000 in
theorem gX7_tear_X7_needNoPlay : GoodIn wsX7_tear (wsV RX7 108 RX7 yX7_needNoPlay wsX7_needNoPlay) := goodIn_app (goodIn_of _ (by decide +kernel)) ggX7_tear_X7_needNoPlay
theorem dX7_tear_0 : decode cX7_tear 0 = .ok (.aload_n 0, 1) := by decide +kernel
theorem dX7_tear_1 : decode cX7_tear 1 = .ok (.invokevirtual 108, 3) := by decide +kernel
theorem dX7_tear_4 : decode cX7_tear 4 = .ok (.aload_n 0, 1) := by decide +kernel
theorem dX7_tear_5 : decode cX7_tear 5 = .ok (.getfield 10, 3) := by decide +kernel
theorem dX7_tear_8 : decode cX7_tear 8 = .ok (.getfield 111, 3) := by decide +kernel
theorem dX7_tear_11 : decode cX7_tear 11 = .ok (.istore_n 1, 1) := by decide +kernel
theorem dX7_tear_12 : decode cX7_tear 12 = .ok (.aload_n 0, 1) := by decide +kernel
theorem dX7_tear_13 : decode cX7_tear 13 = .ok (.getfield 10, 3) := by decide +kernel
theorem dX7_tear_16 : decode cX7_tear 16 = .ok (.iconst 0, 1) := by decide +kernel
theorem dX7_tear_17 : decode cX7_tear 17 = .ok (.putfield 111, 3) := by decide +kernel
theorem dX7_tear_20 : decode cX7_tear 20 = .ok (.iload_n 1, 1) := by decide +kernel
theorem dX7_tear_21 : decode cX7_tear 21 = .ok (.ireturn, 1) := by decide +kernel
set_option maxRecDepth 20000 in
theorem ggX7_ill_X7_needMask : GoodIn wsX7_ill wsX7_needMask := goodIn_ca (goodIn_r _ [7, 8, 9] (by decide +kernel) (by decide +kernel)) (goodIn_sub (fun _ h => List.mem_cons_of_mem _ (List.mem_append_right _ h)) (by decide +kernel))
set_option maxRecDepth 20000 in
theorem gX7_ill_X7_needMask : GoodIn wsX7_ill (va_wsS RX7 77 yX7_needMask wsX7_needMask) := goodIn_app (goodIn_of _ (by decide +kernel)) ggX7_ill_X7_needMask
set_option maxRecDepth 20000 in
theorem ggX7_ill_X7_isIn : GoodIn wsX7_ill wsX7_isIn := goodIn_r _ [12] (by decide +kernel) (by decide +kernel)
set_option maxRecDepth 20000 in
theorem gX7_ill_X7_isIn : GoodIn wsX7_ill (va_wsS RX7 131 yX7_isIn wsX7_isIn) := goodIn_app (goodIn_of _ (by decide +kernel)) ggX7_ill_X7_isIn
theorem dX7_ill_0 : decode cX7_ill 0 = .ok (.iload_n 1, 1) := by decide +kernel
theorem dX7_ill_1 : decode cX7_ill 1 = .ok (.invokestatic 77, 3) := by decide +kernel
theorem dX7_ill_4 : decode cX7_ill 4 = .ok (.aload_n 0, 1) := by decide +kernel
theorem dX7_ill_5 : decode cX7_ill 5 = .ok (.getfield 26, 3) := by decide +kernel
theorem dX7_ill_8 : decode cX7_ill 8 = .ok (.dup, 1) := by decide +kernel
theorem dX7_ill_9 : decode cX7_ill 9 = .ok (.getfield 125, 3) := by decide +kernel
theorem dX7_ill_12 : decode cX7_ill 12 = .ok (.iconst 1, 1) := by decide +kernel
theorem dX7_ill_13 : decode cX7_ill 13 = .ok (.iload_n 1, 1) := by decide +kernel
theorem dX7_ill_14 : decode cX7_ill 14 = .ok (.ishl, 1) := by decide +kernel
theorem dX7_ill_15 : decode cX7_ill 15 = .ok (.ixor, 1) := by decide +kernel
theorem dX7_ill_16 : decode cX7_ill 16 = .ok (.putfield 125, 3) := by decide +kernel
theorem dX7_ill_19 : decode cX7_ill 19 = .ok (.aload_n 0, 1) := by decide +kernel
theorem dX7_ill_20 : decode cX7_ill 20 = .ok (.getfield 26, 3) := by decide +kernel
theorem dX7_ill_23 : decode cX7_ill 23 = .ok (.dup, 1) := by decide +kernel
theorem dX7_ill_24 : decode cX7_ill 24 = .ok (.getfield 128, 3) := by decide +kernel
theorem dX7_ill_27 : decode cX7_ill 27 = .ok (.aload_n 0, 1) := by decide +kernel
theorem dX7_ill_28 : decode cX7_ill 28 = .ok (.getfield 26, 3) := by decide +kernel
theorem dX7_ill_31 : decode cX7_ill 31 = .ok (.getfield 125, 3) := by decide +kernel
theorem dX7_ill_34 : decode cX7_ill 34 = .ok (.iconst (-1), 1) := by decide +kernel
theorem dX7_ill_35 : decode cX7_ill 35 = .ok (.ixor, 1) := by decide +kernel
theorem dX7_ill_36 : decode cX7_ill 36 = .ok (.iand, 1) := by decide +kernel
theorem dX7_ill_37 : decode cX7_ill 37 = .ok (.putfield 128, 3) := by decide +kernel
theorem dX7_ill_40 : decode cX7_ill 40 = .ok (.aload_n 0, 1) := by decide +kernel
theorem dX7_ill_41 : decode cX7_ill 41 = .ok (.getfield 26, 3) := by decide +kernel
theorem dX7_ill_44 : decode cX7_ill 44 = .ok (.getfield 125, 3) := by decide +kernel
theorem dX7_ill_47 : decode cX7_ill 47 = .ok (.iload_n 1, 1) := by decide +kernel
theorem dX7_ill_48 : decode cX7_ill 48 = .ok (.invokestatic 131, 3) := by decide +kernel
theorem dX7_ill_51 : decode cX7_ill 51 = .ok (.ireturn, 1) := by decide +kernel
set_option maxRecDepth 20000 in
theorem ggX7_ban_X7_needSecret : GoodIn wsX7_ban wsX7_needSecret := goodIn_ca (goodIn_r _ [6, 7, 8] (by decide +kernel) (by decide +kernel)) (goodIn_sub (fun _ h => List.mem_cons_of_mem _ (List.mem_append_right _ h)) (by decide +kernel))
set_option maxRecDepth 20000 in
theorem gX7_ban_X7_needSecret : GoodIn wsX7_ban (va_wsS RX7 81 yX7_needSecret wsX7_needSecret) := goodIn_app (goodIn_of _ (by decide +kernel)) ggX7_ban_X7_needSecret
set_option maxRecDepth 20000 in
theorem ggX7_ban_X7_isIn : GoodIn wsX7_ban wsX7_isIn := goodIn_r _ [11] (by decide +kernel) (by decide +kernel)
set_option maxRecDepth 20000 in
theorem gX7_ban_X7_isIn : GoodIn wsX7_ban (va_wsS RX7 131 yX7_isIn wsX7_isIn) := goodIn_app (goodIn_of _ (by decide +kernel)) ggX7_ban_X7_isIn
theorem dX7_ban_0 : decode cX7_ban 0 = .ok (.iload_n 1, 1) := by decide +kernel
theorem dX7_ban_1 : decode cX7_ban 1 = .ok (.invokestatic 81, 3) := by decide +kernel
theorem dX7_ban_4 : decode cX7_ban 4 = .ok (.aload_n 0, 1) := by decide +kernel
theorem dX7_ban_5 : decode cX7_ban 5 = .ok (.getfield 26, 3) := by decide +kernel
theorem dX7_ban_8 : decode cX7_ban 8 = .ok (.dup, 1) := by decide +kernel
theorem dX7_ban_9 : decode cX7_ban 9 = .ok (.getfield 134, 3) := by decide +kernel
theorem dX7_ban_12 : decode cX7_ban 12 = .ok (.iconst 1, 1) := by decide +kernel
theorem dX7_ban_13 : decode cX7_ban 13 = .ok (.iload_n 1, 1) := by decide +kernel
theorem dX7_ban_14 : decode cX7_ban 14 = .ok (.ishl, 1) := by decide +kernel
theorem dX7_ban_15 : decode cX7_ban 15 = .ok (.ixor, 1) := by decide +kernel
theorem dX7_ban_16 : decode cX7_ban 16 = .ok (.putfield 134, 3) := by decide +kernel
theorem dX7_ban_19 : decode cX7_ban 19 = .ok (.aload_n 0, 1) := by decide +kernel
theorem dX7_ban_20 : decode cX7_ban 20 = .ok (.getfield 26, 3) := by decide +kernel
theorem dX7_ban_23 : decode cX7_ban 23 = .ok (.getfield 134, 3) := by decide +kernel
theorem dX7_ban_26 : decode cX7_ban 26 = .ok (.iload_n 1, 1) := by decide +kernel
theorem dX7_ban_27 : decode cX7_ban 27 = .ok (.invokestatic 131, 3) := by decide +kernel
theorem dX7_ban_30 : decode cX7_ban 30 = .ok (.ireturn, 1) := by decide +kernel
set_option maxRecDepth 20000 in
theorem ggX7_travel_X7_needNoPlay : GoodIn wsX7_travel wsX7_needNoPlay := goodIn_ca (goodIn_r _ [8, 9, 10, 11, 22, 23, 24, 25, 26, 27, 28, 29, 30, 31, 32, 33, 34, 35, 36, 37] (by decide +kernel) (by decide +kernel)) (goodIn_sub (fun _ h => List.mem_cons_of_mem _ (List.mem_append_right _ h)) (by decide +kernel))
set_option maxRecDepth 20000 in
theorem gX7_travel_X7_needNoPlay : GoodIn wsX7_travel (wsV RX7 108 RX7 yX7_needNoPlay wsX7_needNoPlay) := goodIn_app (goodIn_of _ (by decide +kernel)) ggX7_travel_X7_needNoPlay
set_option maxRecDepth 20000 in
theorem ggX7_travel_X1_beFresh : GoodIn wsX7_travel wsX1_beFresh := goodIn_r _ [16, 17, 18, 19, 20, 21, 42, 43, 44, 45, 46] (by decide +kernel) (by decide +kernel)
set_option maxRecDepth 20000 in
theorem gX7_travel_X1_beFresh : GoodIn wsX7_travel (wsV RX7 137 RX1 yX1_beFresh wsX1_beFresh) := goodIn_app (goodIn_of _ (by decide +kernel)) ggX7_travel_X1_beFresh
theorem dX7_travel_0 : decode cX7_travel 0 = .ok (.aload_n 0, 1) := by decide +kernel
theorem dX7_travel_1 : decode cX7_travel 1 = .ok (.invokevirtual 108, 3) := by decide +kernel
theorem dX7_travel_4 : decode cX7_travel 4 = .ok (.aload_n 0, 1) := by decide +kernel
theorem dX7_travel_5 : decode cX7_travel 5 = .ok (.getfield 26, 3) := by decide +kernel
theorem dX7_travel_8 : decode cX7_travel 8 = .ok (.iconst 0, 1) := by decide +kernel
theorem dX7_travel_9 : decode cX7_travel 9 = .ok (.putfield 134, 3) := by decide +kernel
theorem dX7_travel_12 : decode cX7_travel 12 = .ok (.aload_n 0, 1) := by decide +kernel
theorem dX7_travel_13 : decode cX7_travel 13 = .ok (.getfield 56, 3) := by decide +kernel
theorem dX7_travel_16 : decode cX7_travel 16 = .ok (.invokevirtual 137, 3) := by decide +kernel
theorem dX7_travel_19 : decode cX7_travel 19 = .ok (.return_, 1) := by decide +kernel
set_option maxRecDepth 20000 in
theorem ggX7_gag_X7_needProp : GoodIn wsX7_gag wsX7_needProp := goodIn_ca (goodIn_r _ [8, 9, 10] (by decide +kernel) (by decide +kernel)) (goodIn_sub (fun _ h => List.mem_cons_of_mem _ (List.mem_append_left _ (List.mem_append_right _ h))) (by decide +kernel))
set_option maxRecDepth 20000 in
theorem gX7_gag_X7_needProp : GoodIn wsX7_gag (va_wsS RX7 95 yX7_needProp wsX7_needProp) := goodIn_app (goodIn_of _ (by decide +kernel)) ggX7_gag_X7_needProp
set_option maxRecDepth 20000 in
theorem ggX7_gag_X7_needRange : GoodIn wsX7_gag wsX7_needRange := goodIn_ca (goodIn_r _ [13, 14, 15] (by decide +kernel) (by decide +kernel)) (goodIn_sub (fun _ h => List.mem_cons_of_mem _ (List.mem_append_right _ h)) (by decide +kernel))
set_option maxRecDepth 20000 in
theorem gX7_gag_X7_needRange : GoodIn wsX7_gag (va_wsS RX7 101 yX7_needRange wsX7_needRange) := goodIn_app (goodIn_of _ (by decide +kernel)) ggX7_gag_X7_needRange
set_option maxRecDepth 20000 in
theorem ggX7_gag_X1_add : GoodIn wsX7_gag wsX1_add := goodIn_r _ [20, 21, 22, 23, 24, 41, 42, 43, 44, 45] (by decide +kernel) (by decide +kernel)
set_option maxRecDepth 20000 in
theorem gX7_gag_X1_add : GoodIn wsX7_gag (wsV RX7 143 RX1 yX1_add wsX1_add) := goodIn_app (goodIn_of _ (by decide +kernel)) ggX7_gag_X1_add
theorem dX7_gag_0 : decode cX7_gag 0 = .ok (.iload_n 3, 1) := by decide +kernel
theorem dX7_gag_1 : decode cX7_gag 1 = .ok (.iconst (-1), 1) := by decide +kernel
theorem dX7_gag_2 : decode cX7_gag 2 = .ok (.if_icmp .eq 7, 3) := by decide +kernel
theorem dX7_gag_5 : decode cX7_gag 5 = .ok (.iload_n 3, 1) := by decide +kernel
theorem dX7_gag_6 : decode cX7_gag 6 = .ok (.invokestatic 95, 3) := by decide +kernel
theorem dX7_gag_9 : decode cX7_gag 9 = .ok (.iload_n 1, 1) := by decide +kernel
theorem dX7_gag_10 : decode cX7_gag 10 = .ok (.iconst 1, 1) := by decide +kernel
theorem dX7_gag_11 : decode cX7_gag 11 = .ok (.bipush 20, 2) := by decide +kernel
theorem dX7_gag_13 : decode cX7_gag 13 = .ok (.invokestatic 101, 3) := by decide +kernel
theorem dX7_gag_16 : decode cX7_gag 16 = .ok (.iload_n 2, 1) := by decide +kernel
theorem dX7_gag_17 : decode cX7_gag 17 = .ok (.iconst 0, 1) := by decide +kernel
theorem dX7_gag_18 : decode cX7_gag 18 = .ok (.sipush 1000, 3) := by decide +kernel
theorem dX7_gag_21 : decode cX7_gag 21 = .ok (.invokestatic 101, 3) := by decide +kernel
theorem dX7_gag_24 : decode cX7_gag 24 = .ok (.aload_n 0, 1) := by decide +kernel
theorem dX7_gag_25 : decode cX7_gag 25 = .ok (.getfield 56, 3) := by decide +kernel
theorem dX7_gag_28 : decode cX7_gag 28 = .ok (.getfield 140, 3) := by decide +kernel
theorem dX7_gag_31 : decode cX7_gag 31 = .ok (.bipush 6, 2) := by decide +kernel
theorem dX7_gag_33 : decode cX7_gag 33 = .ok (.if_icmp .lt 13, 3) := by decide +kernel
theorem dX7_gag_36 : decode cX7_gag 36 = .ok (.new 114, 3) := by decide +kernel
theorem dX7_gag_39 : decode cX7_gag 39 = .ok (.dup, 1) := by decide +kernel
theorem dX7_gag_40 : decode cX7_gag 40 = .ok (.ldc 141, 2) := by decide +kernel
theorem dX7_gag_42 : decode cX7_gag 42 = .ok (.invokespecial 118, 3) := by decide +kernel
theorem dX7_gag_45 : decode cX7_gag 45 = .ok (.athrow, 1) := by decide +kernel
theorem dX7_gag_46 : decode cX7_gag 46 = .ok (.aload_n 0, 1) := by decide +kernel
theorem dX7_gag_47 : decode cX7_gag 47 = .ok (.getfield 56, 3) := by decide +kernel
theorem dX7_gag_50 : decode cX7_gag 50 = .ok (.iload_n 1, 1) := by decide +kernel
theorem dX7_gag_51 : decode cX7_gag 51 = .ok (.iload_n 2, 1) := by decide +kernel
theorem dX7_gag_52 : decode cX7_gag 52 = .ok (.iload_n 3, 1) := by decide +kernel
theorem dX7_gag_53 : decode cX7_gag 53 = .ok (.invokevirtual 143, 3) := by decide +kernel
theorem dX7_gag_56 : decode cX7_gag 56 = .ok (.ireturn, 1) := by decide +kernel
set_option maxRecDepth 20000 in
theorem ggX7_points_X7_needMask : GoodIn wsX7_points wsX7_needMask := goodIn_ca (goodIn_r _ [5, 6, 7] (by decide +kernel) (by decide +kernel)) (goodIn_sub (fun _ h => List.mem_cons_of_mem _ (List.mem_append_left _ (List.mem_append_right _ h))) (by decide +kernel))
set_option maxRecDepth 20000 in
theorem gX7_points_X7_needMask : GoodIn wsX7_points (va_wsS RX7 77 yX7_needMask wsX7_needMask) := goodIn_app (goodIn_of _ (by decide +kernel)) ggX7_points_X7_needMask
set_option maxRecDepth 20000 in
theorem ggX7_points_X7_needRange : GoodIn wsX7_points wsX7_needRange := goodIn_ca (goodIn_r _ [10, 11, 12] (by decide +kernel) (by decide +kernel)) (goodIn_sub (fun _ h => List.mem_cons_of_mem _ (List.mem_append_right _ h)) (by decide +kernel))
set_option maxRecDepth 20000 in
theorem gX7_points_X7_needRange : GoodIn wsX7_points (va_wsS RX7 101 yX7_needRange wsX7_needRange) := goodIn_app (goodIn_of _ (by decide +kernel)) ggX7_points_X7_needRange
theorem dX7_points_0 : decode cX7_points 0 = .ok (.iload_n 1, 1) := by decide +kernel
theorem dX7_points_1 : decode cX7_points 1 = .ok (.invokestatic 77, 3) := by decide +kernel
theorem dX7_points_4 : decode cX7_points 4 = .ok (.iload_n 2, 1) := by decide +kernel
theorem dX7_points_5 : decode cX7_points 5 = .ok (.iconst 0, 1) := by decide +kernel
theorem dX7_points_6 : decode cX7_points 6 = .ok (.bipush 100, 2) := by decide +kernel
theorem dX7_points_8 : decode cX7_points 8 = .ok (.invokestatic 101, 3) := by decide +kernel
theorem dX7_points_11 : decode cX7_points 11 = .ok (.aload_n 0, 1) := by decide +kernel
theorem dX7_points_12 : decode cX7_points 12 = .ok (.getfield 60, 3) := by decide +kernel
theorem dX7_points_15 : decode cX7_points 15 = .ok (.iload_n 1, 1) := by decide +kernel
theorem dX7_points_16 : decode cX7_points 16 = .ok (.iaload, 1) := by decide +kernel
theorem dX7_points_17 : decode cX7_points 17 = .ok (.istore_n 3, 1) := by decide +kernel
theorem dX7_points_18 : decode cX7_points 18 = .ok (.aload_n 0, 1) := by decide +kernel
theorem dX7_points_19 : decode cX7_points 19 = .ok (.getfield 60, 3) := by decide +kernel
theorem dX7_points_22 : decode cX7_points 22 = .ok (.iload_n 1, 1) := by decide +kernel
theorem dX7_points_23 : decode cX7_points 23 = .ok (.iload_n 2, 1) := by decide +kernel
theorem dX7_points_24 : decode cX7_points 24 = .ok (.iastore, 1) := by decide +kernel
theorem dX7_points_25 : decode cX7_points 25 = .ok (.iload_n 3, 1) := by decide +kernel
theorem dX7_points_26 : decode cX7_points 26 = .ok (.ireturn, 1) := by decide +kernel
set_option maxRecDepth 20000 in
theorem ggX7_night_X7_needRange : GoodIn wsX7_night wsX7_needRange := goodIn_ca (goodIn_r _ [17, 18, 19] (by decide +kernel) (by decide +kernel)) (goodIn_sub (fun _ h => List.mem_cons_of_mem _ (List.mem_append_right _ h)) (by decide +kernel))
set_option maxRecDepth 20000 in
theorem gX7_night_X7_needRange : GoodIn wsX7_night (va_wsS RX7 101 yX7_needRange wsX7_needRange) := goodIn_app (goodIn_of _ (by decide +kernel)) ggX7_night_X7_needRange
set_option maxRecDepth 20000 in
theorem ggX7_night_X7_needNoPlay : GoodIn wsX7_night wsX7_needNoPlay := goodIn_ca (goodIn_r _ [23, 1, 2, 13, 35, 36, 37, 38, 39, 40, 41, 42, 43, 44, 45, 46, 47, 48, 49, 50] (by decide +kernel) (by decide +kernel)) (goodIn_sub (fun _ h => List.mem_cons_of_mem _ (List.mem_append_left _ (List.mem_append_right _ h))) (by decide +kernel))
set_option maxRecDepth 20000 in
theorem gX7_night_X7_needNoPlay : GoodIn wsX7_night (wsV RX7 108 RX7 yX7_needNoPlay wsX7_needNoPlay) := goodIn_app (goodIn_of _ (by decide +kernel)) ggX7_night_X7_needNoPlay
set_option maxRecDepth 20000 in
theorem ggX7_night_X2_copyFrom : GoodIn wsX7_night wsX2_copyFrom := goodIn_r _ [28, 29, 30, 31, 32, 33, 34, 60, 61] (by decide +kernel) (by decide +kernel)
set_option maxRecDepth 20000 in
theorem gX7_night_X2_copyFrom : GoodIn wsX7_night (wsV RX7 160 RX2 yX2_copyFrom wsX2_copyFrom) := goodIn_app (goodIn_of _ (by decide +kernel)) ggX7_night_X2_copyFrom
theorem dX7_night_0 : decode cX7_night 0 = .ok (.iload_n 1, 1) := by decide +kernel
theorem dX7_night_1 : decode cX7_night 1 = .ok (.iconst 1, 1) := by decide +kernel
theorem dX7_night_2 : decode cX7_night 2 = .ok (.bipush 100, 2) := by decide +kernel
theorem dX7_night_4 : decode cX7_night 4 = .ok (.invokestatic 101, 3) := by decide +kernel
theorem dX7_night_7 : decode cX7_night 7 = .ok (.aload_n 0, 1) := by decide +kernel
theorem dX7_night_8 : decode cX7_night 8 = .ok (.invokevirtual 108, 3) := by decide +kernel
theorem dX7_night_11 : decode cX7_night 11 = .ok (.aload_n 0, 1) := by decide +kernel
theorem dX7_night_12 : decode cX7_night 12 = .ok (.getfield 10, 3) := by decide +kernel
theorem dX7_night_15 : decode cX7_night 15 = .ok (.getfield 111, 3) := by decide +kernel
theorem dX7_night_18 : decode cX7_night 18 = .ok (.ifCond .ne 13, 3) := by decide +kernel
theorem dX7_night_21 : decode cX7_night 21 = .ok (.new 114, 3) := by decide +kernel
theorem dX7_night_24 : decode cX7_night 24 = .ok (.dup, 1) := by decide +kernel
theorem dX7_night_25 : decode cX7_night 25 = .ok (.ldc 146, 2) := by decide +kernel
theorem dX7_night_27 : decode cX7_night 27 = .ok (.invokespecial 118, 3) := by decide +kernel
theorem dX7_night_30 : decode cX7_night 30 = .ok (.athrow, 1) := by decide +kernel
theorem dX7_night_31 : decode cX7_night 31 = .ok (.aload_n 0, 1) := by decide +kernel
theorem dX7_night_32 : decode cX7_night 32 = .ok (.iload_n 1, 1) := by decide +kernel
theorem dX7_night_33 : decode cX7_night 33 = .ok (.putfield 148, 3) := by decide +kernel
theorem dX7_night_36 : decode cX7_night 36 = .ok (.aload_n 0, 1) := by decide +kernel
theorem dX7_night_37 : decode cX7_night 37 = .ok (.iconst 0, 1) := by decide +kernel
theorem dX7_night_38 : decode cX7_night 38 = .ok (.putfield 151, 3) := by decide +kernel
theorem dX7_night_41 : decode cX7_night 41 = .ok (.aload_n 0, 1) := by decide +kernel
theorem dX7_night_42 : decode cX7_night 42 = .ok (.iconst 0, 1) := by decide +kernel
theorem dX7_night_43 : decode cX7_night 43 = .ok (.putfield 154, 3) := by decide +kernel
theorem dX7_night_46 : decode cX7_night 46 = .ok (.aload_n 0, 1) := by decide +kernel
theorem dX7_night_47 : decode cX7_night 47 = .ok (.iconst 0, 1) := by decide +kernel
theorem dX7_night_48 : decode cX7_night 48 = .ok (.putfield 74, 3) := by decide +kernel
theorem dX7_night_51 : decode cX7_night 51 = .ok (.aload_n 0, 1) := by decide +kernel
theorem dX7_night_52 : decode cX7_night 52 = .ok (.getfield 26, 3) := by decide +kernel
theorem dX7_night_55 : decode cX7_night 55 = .ok (.iconst 0, 1) := by decide +kernel
theorem dX7_night_56 : decode cX7_night 56 = .ok (.putfield 128, 3) := by decide +kernel
theorem dX7_night_59 : decode cX7_night 59 = .ok (.aload_n 0, 1) := by decide +kernel
theorem dX7_night_60 : decode cX7_night 60 = .ok (.getfield 26, 3) := by decide +kernel
theorem dX7_night_63 : decode cX7_night 63 = .ok (.getfield 157, 3) := by decide +kernel
theorem dX7_night_66 : decode cX7_night 66 = .ok (.aload_n 0, 1) := by decide +kernel
theorem dX7_night_67 : decode cX7_night 67 = .ok (.getfield 19, 3) := by decide +kernel
theorem dX7_night_70 : decode cX7_night 70 = .ok (.invokevirtual 160, 3) := by decide +kernel
theorem dX7_night_73 : decode cX7_night 73 = .ok (.aload_n 0, 1) := by decide +kernel
theorem dX7_night_74 : decode cX7_night 74 = .ok (.iconst 1, 1) := by decide +kernel
theorem dX7_night_75 : decode cX7_night 75 = .ok (.putfield 70, 3) := by decide +kernel
theorem dX7_night_78 : decode cX7_night 78 = .ok (.return_, 1) := by decide +kernel
set_option maxRecDepth 20000 in
theorem ggX7_enter_X7_needMask : GoodIn wsX7_enter wsX7_needMask := goodIn_ca (goodIn_r _ [11, 12, 13] (by decide +kernel) (by decide +kernel)) (goodIn_sub (fun _ h => List.mem_cons_of_mem _ (List.mem_append_right _ h)) (by decide +kernel))
set_option maxRecDepth 20000 in
theorem gX7_enter_X7_needMask : GoodIn wsX7_enter (va_wsS RX7 77 yX7_needMask wsX7_needMask) := goodIn_app (goodIn_of _ (by decide +kernel)) ggX7_enter_X7_needMask
set_option maxRecDepth 20000 in
theorem ggX7_enter_X7_needPlay : GoodIn wsX7_enter wsX7_needPlay := goodIn_ca (goodIn_r _ [17, 1, 2, 18, 46, 47, 48, 49, 50, 51, 52, 53, 54, 55, 56, 57, 58, 59, 60, 61] (by decide +kernel) (by decide +kernel)) (goodIn_sub (fun _ h => List.mem_cons_of_mem _ (List.mem_append_left _ (List.mem_append_right _ h))) (by decide +kernel))
set_option maxRecDepth 20000 in
theorem gX7_enter_X7_needPlay : GoodIn wsX7_enter (wsV RX7 164 RX7 yX7_needPlay wsX7_needPlay) := goodIn_app (goodIn_of _ (by decide +kernel)) ggX7_enter_X7_needPlay
set_option maxRecDepth 20000 in
theorem ggX7_enter_X7_isIn : GoodIn wsX7_enter wsX7_isIn := goodIn_r _ [21] (by decide +kernel) (by decide +kernel)
set_option maxRecDepth 20000 in
theorem gX7_enter_X7_isIn : GoodIn wsX7_enter (va_wsS RX7 131 yX7_isIn wsX7_isIn) := goodIn_app (goodIn_of _ (by decide +kernel)) ggX7_enter_X7_isIn
set_option maxRecDepth 20000 in
theorem ggX7_enter_X0_isJust : GoodIn wsX7_enter wsX0_isJust := goodIn_r _ [26, 27, 28, 29, 30, 31, 66, 67, 68, 69, 70] (by decide +kernel) (by decide +kernel)
set_option maxRecDepth 20000 in
theorem gX7_enter_X0_isJust : GoodIn wsX7_enter (wsV RX7 169 RX0 yX0_isJust wsX0_isJust) := goodIn_app (goodIn_of _ (by decide +kernel)) ggX7_enter_X0_isJust
set_option maxRecDepth 20000 in
theorem ggX7_enter_X7_endMove : GoodIn wsX7_enter wsX7_endMove := goodIn_r _ [35, 36, 7, 6, 37, 18, 38, 39, 40, 41, 10, 42, 43, 44, 45, 46, 47, 48, 49, 50, 51, 52, 53, 54, 55, 56, 57, 58, 59, 60, 61, 66, 67, 68, 69, 70] (by decide +kernel) (by decide +kernel)
set_option maxRecDepth 20000 in
theorem gX7_enter_X7_endMove : GoodIn wsX7_enter (wsV RX7 173 RX7 yX7_endMove wsX7_endMove) := goodIn_app (goodIn_of _ (by decide +kernel)) ggX7_enter_X7_endMove
theorem dX7_enter_0 : decode cX7_enter 0 = .ok (.iload_n 1, 1) := by decide +kernel
theorem dX7_enter_1 : decode cX7_enter 1 = .ok (.invokestatic 77, 3) := by decide +kernel
theorem dX7_enter_4 : decode cX7_enter 4 = .ok (.aload_n 0, 1) := by decide +kernel
theorem dX7_enter_5 : decode cX7_enter 5 = .ok (.invokevirtual 164, 3) := by decide +kernel
theorem dX7_enter_8 : decode cX7_enter 8 = .ok (.aload_n 0, 1) := by decide +kernel
theorem dX7_enter_9 : decode cX7_enter 9 = .ok (.getfield 26, 3) := by decide +kernel
theorem dX7_enter_12 : decode cX7_enter 12 = .ok (.getfield 125, 3) := by decide +kernel
theorem dX7_enter_15 : decode cX7_enter 15 = .ok (.aload_n 0, 1) := by decide +kernel
theorem dX7_enter_16 : decode cX7_enter 16 = .ok (.getfield 26, 3) := by decide +kernel
theorem dX7_enter_19 : decode cX7_enter 19 = .ok (.getfield 128, 3) := by decide +kernel
theorem dX7_enter_22 : decode cX7_enter 22 = .ok (.ior, 1) := by decide +kernel
theorem dX7_enter_23 : decode cX7_enter 23 = .ok (.iload_n 1, 1) := by decide +kernel
theorem dX7_enter_24 : decode cX7_enter 24 = .ok (.invokestatic 131, 3) := by decide +kernel
theorem dX7_enter_27 : decode cX7_enter 27 = .ok (.ifCond .eq 13, 3) := by decide +kernel
theorem dX7_enter_30 : decode cX7_enter 30 = .ok (.new 114, 3) := by decide +kernel
theorem dX7_enter_33 : decode cX7_enter 33 = .ok (.dup, 1) := by decide +kernel
theorem dX7_enter_34 : decode cX7_enter 34 = .ok (.ldc 167, 2) := by decide +kernel
theorem dX7_enter_36 : decode cX7_enter 36 = .ok (.invokespecial 118, 3) := by decide +kernel
theorem dX7_enter_39 : decode cX7_enter 39 = .ok (.athrow, 1) := by decide +kernel
theorem dX7_enter_40 : decode cX7_enter 40 = .ok (.aload_n 0, 1) := by decide +kernel
theorem dX7_enter_41 : decode cX7_enter 41 = .ok (.getfield 10, 3) := by decide +kernel
theorem dX7_enter_44 : decode cX7_enter 44 = .ok (.aload_n 0, 1) := by decide +kernel
theorem dX7_enter_45 : decode cX7_enter 45 = .ok (.getfield 74, 3) := by decide +kernel
theorem dX7_enter_48 : decode cX7_enter 48 = .ok (.iconst 2, 1) := by decide +kernel
theorem dX7_enter_49 : decode cX7_enter 49 = .ok (.iload_n 1, 1) := by decide +kernel
theorem dX7_enter_50 : decode cX7_enter 50 = .ok (.iconst (-1), 1) := by decide +kernel
theorem dX7_enter_51 : decode cX7_enter 51 = .ok (.iconst (-1), 1) := by decide +kernel
theorem dX7_enter_52 : decode cX7_enter 52 = .ok (.invokevirtual 169, 3) := by decide +kernel
theorem dX7_enter_55 : decode cX7_enter 55 = .ok (.istore_n 2, 1) := by decide +kernel
theorem dX7_enter_56 : decode cX7_enter 56 = .ok (.aload_n 0, 1) := by decide +kernel
theorem dX7_enter_57 : decode cX7_enter 57 = .ok (.getfield 26, 3) := by decide +kernel
theorem dX7_enter_60 : decode cX7_enter 60 = .ok (.dup, 1) := by decide +kernel
theorem dX7_enter_61 : decode cX7_enter 61 = .ok (.getfield 128, 3) := by decide +kernel
theorem dX7_enter_64 : decode cX7_enter 64 = .ok (.iconst 1, 1) := by decide +kernel
theorem dX7_enter_65 : decode cX7_enter 65 = .ok (.iload_n 1, 1) := by decide +kernel
theorem dX7_enter_66 : decode cX7_enter 66 = .ok (.ishl, 1) := by decide +kernel
theorem dX7_enter_67 : decode cX7_enter 67 = .ok (.ior, 1) := by decide +kernel
theorem dX7_enter_68 : decode cX7_enter 68 = .ok (.putfield 128, 3) := by decide +kernel
theorem dX7_enter_71 : decode cX7_enter 71 = .ok (.aload_n 0, 1) := by decide +kernel
theorem dX7_enter_72 : decode cX7_enter 72 = .ok (.iload_n 2, 1) := by decide +kernel
theorem dX7_enter_73 : decode cX7_enter 73 = .ok (.invokevirtual 173, 3) := by decide +kernel
theorem dX7_enter_76 : decode cX7_enter 76 = .ok (.ireturn, 1) := by decide +kernel
set_option maxRecDepth 20000 in
theorem ggX7_exit_X7_needMask : GoodIn wsX7_exit wsX7_needMask := goodIn_ca (goodIn_r _ [8, 9, 10] (by decide +kernel) (by decide +kernel)) (goodIn_sub (fun _ h => List.mem_cons_of_mem _ (List.mem_append_left _ (List.mem_append_right _ h))) (by decide +kernel))
set_option maxRecDepth 20000 in
theorem gX7_exit_X7_needMask : GoodIn wsX7_exit (va_wsS RX7 77 yX7_needMask wsX7_needMask) := goodIn_app (goodIn_of _ (by decide +kernel)) ggX7_exit_X7_needMask
set_option maxRecDepth 20000 in
theorem ggX7_exit_X7_needPlay : GoodIn wsX7_exit wsX7_needPlay := goodIn_ca (goodIn_r _ [14, 15, 16, 17, 49, 50, 51, 52, 53, 54, 55, 56, 57, 58, 59, 60, 61, 62, 63, 64] (by decide +kernel) (by decide +kernel)) (goodIn_sub (fun _ h => List.mem_cons_of_mem _ (List.mem_append_right _ h)) (by decide +kernel))
set_option maxRecDepth 20000 in
theorem gX7_exit_X7_needPlay : GoodIn wsX7_exit (wsV RX7 164 RX7 yX7_needPlay wsX7_needPlay) := goodIn_app (goodIn_of _ (by decide +kernel)) ggX7_exit_X7_needPlay
set_option maxRecDepth 20000 in
theorem ggX7_exit_X7_needOn : GoodIn wsX7_exit wsX7_needOn := goodIn_ca (goodIn_r _ [21, 15, 16, 3, 4, 22, 23, 7, 24, 49, 50, 51, 52, 53, 54, 55, 56, 57, 58, 59, 60, 61, 62, 63, 64, 65, 66, 67, 68] (by decide +kernel) (by decide +kernel)) (goodIn_sub (fun _ h => List.mem_cons_of_mem _ (List.mem_append_right _ h)) (by decide +kernel))
set_option maxRecDepth 20000 in
theorem gX7_exit_X7_needOn : GoodIn wsX7_exit (wsV RX7 177 RX7 yX7_needOn wsX7_needOn) := goodIn_app (goodIn_of _ (by decide +kernel)) ggX7_exit_X7_needOn
set_option maxRecDepth 20000 in
theorem ggX7_exit_X0_isJust : GoodIn wsX7_exit wsX0_isJust := goodIn_r _ [29, 30, 31, 32, 33, 34, 69, 70, 71, 72, 73] (by decide +kernel) (by decide +kernel)
set_option maxRecDepth 20000 in
theorem gX7_exit_X0_isJust : GoodIn wsX7_exit (wsV RX7 169 RX0 yX0_isJust wsX0_isJust) := goodIn_app (goodIn_of _ (by decide +kernel)) ggX7_exit_X0_isJust
set_option maxRecDepth 20000 in
theorem ggX7_exit_X7_endMove : GoodIn wsX7_exit wsX7_endMove := goodIn_r _ [38, 39, 2, 1, 40, 17, 41, 42, 43, 44, 7, 45, 46, 47, 48, 49, 50, 51, 52, 53, 54, 55, 56, 57, 58, 59, 60, 61, 62, 63, 64, 69, 70, 71, 72, 73] (by decide +kernel) (by decide +kernel)
set_option maxRecDepth 20000 in
theorem gX7_exit_X7_endMove : GoodIn wsX7_exit (wsV RX7 173 RX7 yX7_endMove wsX7_endMove) := goodIn_app (goodIn_of _ (by decide +kernel)) ggX7_exit_X7_endMove
theorem dX7_exit_0 : decode cX7_exit 0 = .ok (.iload_n 1, 1) := by decide +kernel
theorem dX7_exit_1 : decode cX7_exit 1 = .ok (.invokestatic 77, 3) := by decide +kernel
theorem dX7_exit_4 : decode cX7_exit 4 = .ok (.aload_n 0, 1) := by decide +kernel
theorem dX7_exit_5 : decode cX7_exit 5 = .ok (.invokevirtual 164, 3) := by decide +kernel
theorem dX7_exit_8 : decode cX7_exit 8 = .ok (.aload_n 0, 1) := by decide +kernel
theorem dX7_exit_9 : decode cX7_exit 9 = .ok (.iload_n 1, 1) := by decide +kernel
theorem dX7_exit_10 : decode cX7_exit 10 = .ok (.invokevirtual 177, 3) := by decide +kernel
theorem dX7_exit_13 : decode cX7_exit 13 = .ok (.aload_n 0, 1) := by decide +kernel
theorem dX7_exit_14 : decode cX7_exit 14 = .ok (.getfield 10, 3) := by decide +kernel
theorem dX7_exit_17 : decode cX7_exit 17 = .ok (.aload_n 0, 1) := by decide +kernel
theorem dX7_exit_18 : decode cX7_exit 18 = .ok (.getfield 74, 3) := by decide +kernel
theorem dX7_exit_21 : decode cX7_exit 21 = .ok (.iconst 3, 1) := by decide +kernel
theorem dX7_exit_22 : decode cX7_exit 22 = .ok (.iload_n 1, 1) := by decide +kernel
theorem dX7_exit_23 : decode cX7_exit 23 = .ok (.iconst (-1), 1) := by decide +kernel
theorem dX7_exit_24 : decode cX7_exit 24 = .ok (.iconst (-1), 1) := by decide +kernel
theorem dX7_exit_25 : decode cX7_exit 25 = .ok (.invokevirtual 169, 3) := by decide +kernel
theorem dX7_exit_28 : decode cX7_exit 28 = .ok (.istore_n 2, 1) := by decide +kernel
theorem dX7_exit_29 : decode cX7_exit 29 = .ok (.aload_n 0, 1) := by decide +kernel
theorem dX7_exit_30 : decode cX7_exit 30 = .ok (.getfield 26, 3) := by decide +kernel
theorem dX7_exit_33 : decode cX7_exit 33 = .ok (.dup, 1) := by decide +kernel
theorem dX7_exit_34 : decode cX7_exit 34 = .ok (.getfield 128, 3) := by decide +kernel
theorem dX7_exit_37 : decode cX7_exit 37 = .ok (.iconst 1, 1) := by decide +kernel
theorem dX7_exit_38 : decode cX7_exit 38 = .ok (.iload_n 1, 1) := by decide +kernel
theorem dX7_exit_39 : decode cX7_exit 39 = .ok (.ishl, 1) := by decide +kernel
theorem dX7_exit_40 : decode cX7_exit 40 = .ok (.iconst (-1), 1) := by decide +kernel
theorem dX7_exit_41 : decode cX7_exit 41 = .ok (.ixor, 1) := by decide +kernel
theorem dX7_exit_42 : decode cX7_exit 42 = .ok (.iand, 1) := by decide +kernel
theorem dX7_exit_43 : decode cX7_exit 43 = .ok (.putfield 128, 3) := by decide +kernel
theorem dX7_exit_46 : decode cX7_exit 46 = .ok (.aload_n 0, 1) := by decide +kernel
theorem dX7_exit_47 : decode cX7_exit 47 = .ok (.iload_n 2, 1) := by decide +kernel
theorem dX7_exit_48 : decode cX7_exit 48 = .ok (.invokevirtual 173, 3) := by decide +kernel
theorem dX7_exit_51 : decode cX7_exit 51 = .ok (.ireturn, 1) := by decide +kernel
set_option maxRecDepth 20000 in
theorem ggX7_tell_X7_needMask : GoodIn wsX7_tell wsX7_needMask := goodIn_ca (goodIn_r _ [11, 12, 13] (by decide +kernel) (by decide +kernel)) (goodIn_sub (fun _ h => List.mem_cons_of_mem _ (List.mem_append_left _ (List.mem_append_right _ h))) (by decide +kernel))
set_option maxRecDepth 20000 in
theorem gX7_tell_X7_needMask : GoodIn wsX7_tell (va_wsS RX7 77 yX7_needMask wsX7_needMask) := goodIn_app (goodIn_of _ (by decide +kernel)) ggX7_tell_X7_needMask
set_option maxRecDepth 20000 in
theorem ggX7_tell_X7_needSecret : GoodIn wsX7_tell wsX7_needSecret := goodIn_ca (goodIn_r _ [16, 12, 13] (by decide +kernel) (by decide +kernel)) (goodIn_sub (fun _ h => List.mem_cons_of_mem _ (List.mem_append_left _ (List.mem_append_right _ h))) (by decide +kernel))
set_option maxRecDepth 20000 in
theorem gX7_tell_X7_needSecret : GoodIn wsX7_tell (va_wsS RX7 81 yX7_needSecret wsX7_needSecret) := goodIn_app (goodIn_of _ (by decide +kernel)) ggX7_tell_X7_needSecret
set_option maxRecDepth 20000 in
theorem ggX7_tell_X7_needUnlike : GoodIn wsX7_tell wsX7_needUnlike := goodIn_ca (goodIn_r _ [19, 20, 21] (by decide +kernel) (by decide +kernel)) (goodIn_sub (fun _ h => List.mem_cons_of_mem _ (List.mem_append_right _ h)) (by decide +kernel))
set_option maxRecDepth 20000 in
theorem gX7_tell_X7_needUnlike : GoodIn wsX7_tell (va_wsS RX7 105 yX7_needUnlike wsX7_needUnlike) := goodIn_app (goodIn_of _ (by decide +kernel)) ggX7_tell_X7_needUnlike
set_option maxRecDepth 20000 in
theorem ggX7_tell_X7_needPlay : GoodIn wsX7_tell wsX7_needPlay := goodIn_ca (goodIn_r _ [25, 1, 2, 26, 132, 133, 134, 135, 136, 137, 138, 139, 140, 141, 142, 143, 144, 145, 146, 147] (by decide +kernel) (by decide +kernel)) (goodIn_sub (fun _ h => List.mem_cons_of_mem _ (List.mem_append_left _ (List.mem_append_left _ (List.mem_append_right _ h)))) (by decide +kernel))
set_option maxRecDepth 20000 in
theorem gX7_tell_X7_needPlay : GoodIn wsX7_tell (wsV RX7 164 RX7 yX7_needPlay wsX7_needPlay) := goodIn_app (goodIn_of _ (by decide +kernel)) ggX7_tell_X7_needPlay
set_option maxRecDepth 20000 in
theorem ggX7_tell_X7_needOn : GoodIn wsX7_tell wsX7_needOn := goodIn_ca (goodIn_r _ [30, 1, 2, 3, 31, 32, 33, 10, 34, 132, 133, 134, 135, 136, 137, 138, 139, 140, 141, 142, 143, 144, 145, 146, 147, 148, 149, 150, 151] (by decide +kernel) (by decide +kernel)) (goodIn_sub (fun _ h => List.mem_cons_of_mem _ (List.mem_append_left _ (List.mem_append_left _ (List.mem_append_right _ h)))) (by decide +kernel))
set_option maxRecDepth 20000 in
theorem gX7_tell_X7_needOn : GoodIn wsX7_tell (wsV RX7 177 RX7 yX7_needOn wsX7_needOn) := goodIn_app (goodIn_of _ (by decide +kernel)) ggX7_tell_X7_needOn
set_option maxRecDepth 20000 in
theorem ggX7_tell_X2_isKnower : GoodIn wsX7_tell wsX2_isKnower := goodIn_r _ [39, 40, 33, 10, 34, 152, 153] (by decide +kernel) (by decide +kernel)
set_option maxRecDepth 20000 in
theorem gX7_tell_X2_isKnower : GoodIn wsX7_tell (wsV RX7 84 RX2 yX2_isKnower wsX2_isKnower) := goodIn_app (goodIn_of _ (by decide +kernel)) ggX7_tell_X2_isKnower
set_option maxRecDepth 20000 in
theorem ggX7_tell_X7_isIn : GoodIn wsX7_tell wsX7_isIn := goodIn_r _ [34] (by decide +kernel) (by decide +kernel)
set_option maxRecDepth 20000 in
theorem gX7_tell_X7_isIn : GoodIn wsX7_tell (va_wsS RX7 131 yX7_isIn wsX7_isIn) := goodIn_app (goodIn_of _ (by decide +kernel)) ggX7_tell_X7_isIn
set_option maxRecDepth 20000 in
theorem ggX7_tell_X0_isJust : GoodIn wsX7_tell wsX0_isJust := goodIn_r _ [45, 46, 47, 48, 49, 50, 154, 155, 156, 157, 158] (by decide +kernel) (by decide +kernel)
set_option maxRecDepth 20000 in
theorem gX7_tell_X0_isJust : GoodIn wsX7_tell (wsV RX7 169 RX0 yX0_isJust wsX0_isJust) := goodIn_app (goodIn_of _ (by decide +kernel)) ggX7_tell_X0_isJust
set_option maxRecDepth 20000 in
theorem ggX7_tell_X7_wouldSpoil : GoodIn wsX7_tell wsX7_wouldSpoil := goodIn_r _ [54, 55, 7, 3, 4, 56, 57, 58, 59, 60, 61, 62, 63, 64, 65, 66, 67, 68, 69, 70, 71, 72, 38, 73, 40, 74, 75, 76, 77, 78, 79, 80, 81, 82, 83, 84, 85, 86, 33, 10, 34, 87, 88, 89, 90, 91, 92, 93, 36, 37, 39, 94, 95, 96, 97, 98, 99, 100, 101, 44, 102, 103, 46, 47, 50, 49, 104, 105, 106, 107, 108, 109, 110, 111, 112, 113, 114, 115, 116, 117, 132, 133, 134, 135, 136, 137, 138, 139, 140, 141, 142, 143, 144, 145, 146, 147, 148, 149, 150, 151, 159, 160, 161, 154, 155, 156, 157, 158, 152, 153] (by decide +kernel) (by decide +kernel)
set_option maxRecDepth 20000 in
theorem gX7_tell_X7_wouldSpoil : GoodIn wsX7_tell (wsV RX7 182 RX7 yX7_wouldSpoil wsX7_wouldSpoil) := goodIn_app (goodIn_of _ (by decide +kernel)) ggX7_tell_X7_wouldSpoil
set_option maxRecDepth 20000 in
theorem ggX7_tell_X2_learn : GoodIn wsX7_tell wsX2_learn := goodIn_r _ [107, 40, 152, 153] (by decide +kernel) (by decide +kernel)
set_option maxRecDepth 20000 in
theorem gX7_tell_X2_learn : GoodIn wsX7_tell (wsV RX7 88 RX2 yX2_learn wsX2_learn) := goodIn_app (goodIn_of _ (by decide +kernel)) ggX7_tell_X2_learn
set_option maxRecDepth 20000 in
theorem ggX7_tell_X7_endMove : GoodIn wsX7_tell wsX7_endMove := goodIn_r _ [121, 122, 7, 6, 123, 26, 124, 125, 126, 127, 10, 128, 129, 130, 131, 132, 133, 134, 135, 136, 137, 138, 139, 140, 141, 142, 143, 144, 145, 146, 147, 154, 155, 156, 157, 158] (by decide +kernel) (by decide +kernel)
set_option maxRecDepth 20000 in
theorem gX7_tell_X7_endMove : GoodIn wsX7_tell (wsV RX7 173 RX7 yX7_endMove wsX7_endMove) := goodIn_app (goodIn_of _ (by decide +kernel)) ggX7_tell_X7_endMove
theorem dX7_tell_0 : decode cX7_tell 0 = .ok (.iload_n 1, 1) := by decide +kernel
theorem dX7_tell_1 : decode cX7_tell 1 = .ok (.invokestatic 77, 3) := by decide +kernel
theorem dX7_tell_4 : decode cX7_tell 4 = .ok (.iload_n 2, 1) := by decide +kernel
theorem dX7_tell_5 : decode cX7_tell 5 = .ok (.invokestatic 77, 3) := by decide +kernel
theorem dX7_tell_8 : decode cX7_tell 8 = .ok (.iload_n 3, 1) := by decide +kernel
theorem dX7_tell_9 : decode cX7_tell 9 = .ok (.invokestatic 81, 3) := by decide +kernel
theorem dX7_tell_12 : decode cX7_tell 12 = .ok (.iload_n 1, 1) := by decide +kernel
theorem dX7_tell_13 : decode cX7_tell 13 = .ok (.iload_n 2, 1) := by decide +kernel
theorem dX7_tell_14 : decode cX7_tell 14 = .ok (.invokestatic 105, 3) := by decide +kernel
theorem dX7_tell_17 : decode cX7_tell 17 = .ok (.aload_n 0, 1) := by decide +kernel
theorem dX7_tell_18 : decode cX7_tell 18 = .ok (.invokevirtual 164, 3) := by decide +kernel
theorem dX7_tell_21 : decode cX7_tell 21 = .ok (.aload_n 0, 1) := by decide +kernel
theorem dX7_tell_22 : decode cX7_tell 22 = .ok (.iload_n 1, 1) := by decide +kernel
theorem dX7_tell_23 : decode cX7_tell 23 = .ok (.invokevirtual 177, 3) := by decide +kernel
theorem dX7_tell_26 : decode cX7_tell 26 = .ok (.aload_n 0, 1) := by decide +kernel
theorem dX7_tell_27 : decode cX7_tell 27 = .ok (.iload_n 2, 1) := by decide +kernel
theorem dX7_tell_28 : decode cX7_tell 28 = .ok (.invokevirtual 177, 3) := by decide +kernel
theorem dX7_tell_31 : decode cX7_tell 31 = .ok (.aload_n 0, 1) := by decide +kernel
theorem dX7_tell_32 : decode cX7_tell 32 = .ok (.getfield 26, 3) := by decide +kernel
theorem dX7_tell_35 : decode cX7_tell 35 = .ok (.getfield 157, 3) := by decide +kernel
theorem dX7_tell_38 : decode cX7_tell 38 = .ok (.iload_n 1, 1) := by decide +kernel
theorem dX7_tell_39 : decode cX7_tell 39 = .ok (.iload_n 3, 1) := by decide +kernel
theorem dX7_tell_40 : decode cX7_tell 40 = .ok (.invokevirtual 84, 3) := by decide +kernel
theorem dX7_tell_43 : decode cX7_tell 43 = .ok (.ifCond .eq 17, 3) := by decide +kernel
theorem dX7_tell_46 : decode cX7_tell 46 = .ok (.aload_n 0, 1) := by decide +kernel
theorem dX7_tell_47 : decode cX7_tell 47 = .ok (.getfield 26, 3) := by decide +kernel
theorem dX7_tell_50 : decode cX7_tell 50 = .ok (.getfield 134, 3) := by decide +kernel
theorem dX7_tell_53 : decode cX7_tell 53 = .ok (.iload_n 3, 1) := by decide +kernel
theorem dX7_tell_54 : decode cX7_tell 54 = .ok (.invokestatic 131, 3) := by decide +kernel
theorem dX7_tell_57 : decode cX7_tell 57 = .ok (.ifCond .eq 13, 3) := by decide +kernel
theorem dX7_tell_60 : decode cX7_tell 60 = .ok (.new 114, 3) := by decide +kernel
theorem dX7_tell_63 : decode cX7_tell 63 = .ok (.dup, 1) := by decide +kernel
theorem dX7_tell_64 : decode cX7_tell 64 = .ok (.ldc 180, 2) := by decide +kernel
theorem dX7_tell_66 : decode cX7_tell 66 = .ok (.invokespecial 118, 3) := by decide +kernel
theorem dX7_tell_69 : decode cX7_tell 69 = .ok (.athrow, 1) := by decide +kernel
theorem dX7_tell_70 : decode cX7_tell 70 = .ok (.aload_n 0, 1) := by decide +kernel
theorem dX7_tell_71 : decode cX7_tell 71 = .ok (.getfield 26, 3) := by decide +kernel
theorem dX7_tell_74 : decode cX7_tell 74 = .ok (.getfield 157, 3) := by decide +kernel
theorem dX7_tell_77 : decode cX7_tell 77 = .ok (.iload_n 2, 1) := by decide +kernel
theorem dX7_tell_78 : decode cX7_tell 78 = .ok (.iload_n 3, 1) := by decide +kernel
theorem dX7_tell_79 : decode cX7_tell 79 = .ok (.invokevirtual 84, 3) := by decide +kernel
theorem dX7_tell_82 : decode cX7_tell 82 = .ok (.ifCond .ne 7, 3) := by decide +kernel
theorem dX7_tell_85 : decode cX7_tell 85 = .ok (.iconst 1, 1) := by decide +kernel
theorem dX7_tell_86 : decode cX7_tell 86 = .ok (.goto 4, 3) := by decide +kernel
theorem dX7_tell_89 : decode cX7_tell 89 = .ok (.iconst 0, 1) := by decide +kernel
theorem dX7_tell_90 : decode cX7_tell 90 = .ok (.istore 4, 2) := by decide +kernel
theorem dX7_tell_92 : decode cX7_tell 92 = .ok (.iload 4, 2) := by decide +kernel
theorem dX7_tell_94 : decode cX7_tell 94 = .ok (.ifCond .eq 25, 3) := by decide +kernel
theorem dX7_tell_97 : decode cX7_tell 97 = .ok (.aload_n 0, 1) := by decide +kernel
theorem dX7_tell_98 : decode cX7_tell 98 = .ok (.getfield 10, 3) := by decide +kernel
theorem dX7_tell_101 : decode cX7_tell 101 = .ok (.aload_n 0, 1) := by decide +kernel
theorem dX7_tell_102 : decode cX7_tell 102 = .ok (.getfield 74, 3) := by decide +kernel
theorem dX7_tell_105 : decode cX7_tell 105 = .ok (.iconst 0, 1) := by decide +kernel
theorem dX7_tell_106 : decode cX7_tell 106 = .ok (.iload_n 1, 1) := by decide +kernel
theorem dX7_tell_107 : decode cX7_tell 107 = .ok (.iload_n 2, 1) := by decide +kernel
theorem dX7_tell_108 : decode cX7_tell 108 = .ok (.iload_n 3, 1) := by decide +kernel
theorem dX7_tell_109 : decode cX7_tell 109 = .ok (.invokevirtual 169, 3) := by decide +kernel
theorem dX7_tell_112 : decode cX7_tell 112 = .ok (.ifCond .eq 7, 3) := by decide +kernel
theorem dX7_tell_115 : decode cX7_tell 115 = .ok (.iconst 1, 1) := by decide +kernel
theorem dX7_tell_116 : decode cX7_tell 116 = .ok (.goto 4, 3) := by decide +kernel
theorem dX7_tell_119 : decode cX7_tell 119 = .ok (.iconst 0, 1) := by decide +kernel
theorem dX7_tell_120 : decode cX7_tell 120 = .ok (.istore 5, 2) := by decide +kernel
theorem dX7_tell_122 : decode cX7_tell 122 = .ok (.iload 4, 2) := by decide +kernel
theorem dX7_tell_124 : decode cX7_tell 124 = .ok (.ifCond .eq 19, 3) := by decide +kernel
theorem dX7_tell_127 : decode cX7_tell 127 = .ok (.iload 5, 2) := by decide +kernel
theorem dX7_tell_129 : decode cX7_tell 129 = .ok (.ifCond .ne 14, 3) := by decide +kernel
theorem dX7_tell_132 : decode cX7_tell 132 = .ok (.aload_n 0, 1) := by decide +kernel
theorem dX7_tell_133 : decode cX7_tell 133 = .ok (.iload_n 2, 1) := by decide +kernel
theorem dX7_tell_134 : decode cX7_tell 134 = .ok (.iload_n 3, 1) := by decide +kernel
theorem dX7_tell_135 : decode cX7_tell 135 = .ok (.invokevirtual 182, 3) := by decide +kernel
theorem dX7_tell_138 : decode cX7_tell 138 = .ok (.ifCond .eq 5, 3) := by decide +kernel
theorem dX7_tell_141 : decode cX7_tell 141 = .ok (.iconst 0, 1) := by decide +kernel
theorem dX7_tell_142 : decode cX7_tell 142 = .ok (.ireturn, 1) := by decide +kernel
theorem dX7_tell_143 : decode cX7_tell 143 = .ok (.aload_n 0, 1) := by decide +kernel
theorem dX7_tell_144 : decode cX7_tell 144 = .ok (.getfield 26, 3) := by decide +kernel
theorem dX7_tell_147 : decode cX7_tell 147 = .ok (.getfield 157, 3) := by decide +kernel
theorem dX7_tell_150 : decode cX7_tell 150 = .ok (.iload_n 2, 1) := by decide +kernel
theorem dX7_tell_151 : decode cX7_tell 151 = .ok (.iload_n 3, 1) := by decide +kernel
theorem dX7_tell_152 : decode cX7_tell 152 = .ok (.invokevirtual 88, 3) := by decide +kernel
theorem dX7_tell_155 : decode cX7_tell 155 = .ok (.aload_n 0, 1) := by decide +kernel
theorem dX7_tell_156 : decode cX7_tell 156 = .ok (.iload 5, 2) := by decide +kernel
theorem dX7_tell_158 : decode cX7_tell 158 = .ok (.invokevirtual 173, 3) := by decide +kernel
theorem dX7_tell_161 : decode cX7_tell 161 = .ok (.ireturn, 1) := by decide +kernel
set_option maxRecDepth 20000 in
theorem ggX7_give_X7_needMask : GoodIn wsX7_give wsX7_needMask := goodIn_ca (goodIn_r _ [11, 12, 13] (by decide +kernel) (by decide +kernel)) (goodIn_sub (fun _ h => List.mem_cons_of_mem _ (List.mem_append_left _ (List.mem_append_right _ h))) (by decide +kernel))
set_option maxRecDepth 20000 in
theorem gX7_give_X7_needMask : GoodIn wsX7_give (va_wsS RX7 77 yX7_needMask wsX7_needMask) := goodIn_app (goodIn_of _ (by decide +kernel)) ggX7_give_X7_needMask
set_option maxRecDepth 20000 in
theorem ggX7_give_X7_needProp : GoodIn wsX7_give wsX7_needProp := goodIn_ca (goodIn_r _ [16, 12, 13] (by decide +kernel) (by decide +kernel)) (goodIn_sub (fun _ h => List.mem_cons_of_mem _ (List.mem_append_left _ (List.mem_append_right _ h))) (by decide +kernel))
set_option maxRecDepth 20000 in
theorem gX7_give_X7_needProp : GoodIn wsX7_give (va_wsS RX7 95 yX7_needProp wsX7_needProp) := goodIn_app (goodIn_of _ (by decide +kernel)) ggX7_give_X7_needProp
set_option maxRecDepth 20000 in
theorem ggX7_give_X7_needUnlike : GoodIn wsX7_give wsX7_needUnlike := goodIn_ca (goodIn_r _ [19, 20, 21] (by decide +kernel) (by decide +kernel)) (goodIn_sub (fun _ h => List.mem_cons_of_mem _ (List.mem_append_right _ h)) (by decide +kernel))
set_option maxRecDepth 20000 in
theorem gX7_give_X7_needUnlike : GoodIn wsX7_give (va_wsS RX7 105 yX7_needUnlike wsX7_needUnlike) := goodIn_app (goodIn_of _ (by decide +kernel)) ggX7_give_X7_needUnlike
set_option maxRecDepth 20000 in
theorem ggX7_give_X7_needPlay : GoodIn wsX7_give wsX7_needPlay := goodIn_ca (goodIn_r _ [25, 1, 2, 26, 59, 60, 61, 62, 63, 64, 65, 66, 67, 68, 69, 70, 71, 72, 73, 74] (by decide +kernel) (by decide +kernel)) (goodIn_sub (fun _ h => List.mem_cons_of_mem _ (List.mem_append_left _ (List.mem_append_left _ (List.mem_append_right _ h)))) (by decide +kernel))
set_option maxRecDepth 20000 in
theorem gX7_give_X7_needPlay : GoodIn wsX7_give (wsV RX7 164 RX7 yX7_needPlay wsX7_needPlay) := goodIn_app (goodIn_of _ (by decide +kernel)) ggX7_give_X7_needPlay
set_option maxRecDepth 20000 in
theorem ggX7_give_X7_needOn : GoodIn wsX7_give wsX7_needOn := goodIn_ca (goodIn_r _ [30, 1, 2, 3, 31, 32, 33, 10, 34, 59, 60, 61, 62, 63, 64, 65, 66, 67, 68, 69, 70, 71, 72, 73, 74, 75, 76, 77, 78] (by decide +kernel) (by decide +kernel)) (goodIn_sub (fun _ h => List.mem_cons_of_mem _ (List.mem_append_left _ (List.mem_append_left _ (List.mem_append_right _ h)))) (by decide +kernel))
set_option maxRecDepth 20000 in
theorem gX7_give_X7_needOn : GoodIn wsX7_give (wsV RX7 177 RX7 yX7_needOn wsX7_needOn) := goodIn_app (goodIn_of _ (by decide +kernel)) ggX7_give_X7_needOn
set_option maxRecDepth 20000 in
theorem ggX7_give_X0_isJust : GoodIn wsX7_give wsX0_isJust := goodIn_r _ [39, 40, 41, 42, 43, 44, 81, 82, 83, 84, 85] (by decide +kernel) (by decide +kernel)
set_option maxRecDepth 20000 in
theorem gX7_give_X0_isJust : GoodIn wsX7_give (wsV RX7 169 RX0 yX0_isJust wsX0_isJust) := goodIn_app (goodIn_of _ (by decide +kernel)) ggX7_give_X0_isJust
set_option maxRecDepth 20000 in
theorem ggX7_give_X7_endMove : GoodIn wsX7_give wsX7_endMove := goodIn_r _ [48, 49, 7, 6, 50, 26, 51, 52, 53, 54, 10, 55, 56, 57, 58, 59, 60, 61, 62, 63, 64, 65, 66, 67, 68, 69, 70, 71, 72, 73, 74, 81, 82, 83, 84, 85] (by decide +kernel) (by decide +kernel)
set_option maxRecDepth 20000 in
theorem gX7_give_X7_endMove : GoodIn wsX7_give (wsV RX7 173 RX7 yX7_endMove wsX7_endMove) := goodIn_app (goodIn_of _ (by decide +kernel)) ggX7_give_X7_endMove
theorem dX7_give_0 : decode cX7_give 0 = .ok (.iload_n 1, 1) := by decide +kernel
theorem dX7_give_1 : decode cX7_give 1 = .ok (.invokestatic 77, 3) := by decide +kernel
theorem dX7_give_4 : decode cX7_give 4 = .ok (.iload_n 2, 1) := by decide +kernel
theorem dX7_give_5 : decode cX7_give 5 = .ok (.invokestatic 77, 3) := by decide +kernel
theorem dX7_give_8 : decode cX7_give 8 = .ok (.iload_n 3, 1) := by decide +kernel
theorem dX7_give_9 : decode cX7_give 9 = .ok (.invokestatic 95, 3) := by decide +kernel
theorem dX7_give_12 : decode cX7_give 12 = .ok (.iload_n 1, 1) := by decide +kernel
theorem dX7_give_13 : decode cX7_give 13 = .ok (.iload_n 2, 1) := by decide +kernel
theorem dX7_give_14 : decode cX7_give 14 = .ok (.invokestatic 105, 3) := by decide +kernel
theorem dX7_give_17 : decode cX7_give 17 = .ok (.aload_n 0, 1) := by decide +kernel
theorem dX7_give_18 : decode cX7_give 18 = .ok (.invokevirtual 164, 3) := by decide +kernel
theorem dX7_give_21 : decode cX7_give 21 = .ok (.aload_n 0, 1) := by decide +kernel
theorem dX7_give_22 : decode cX7_give 22 = .ok (.iload_n 1, 1) := by decide +kernel
theorem dX7_give_23 : decode cX7_give 23 = .ok (.invokevirtual 177, 3) := by decide +kernel
theorem dX7_give_26 : decode cX7_give 26 = .ok (.aload_n 0, 1) := by decide +kernel
theorem dX7_give_27 : decode cX7_give 27 = .ok (.iload_n 2, 1) := by decide +kernel
theorem dX7_give_28 : decode cX7_give 28 = .ok (.invokevirtual 177, 3) := by decide +kernel
theorem dX7_give_31 : decode cX7_give 31 = .ok (.aload_n 0, 1) := by decide +kernel
theorem dX7_give_32 : decode cX7_give 32 = .ok (.getfield 26, 3) := by decide +kernel
theorem dX7_give_35 : decode cX7_give 35 = .ok (.getfield 157, 3) := by decide +kernel
theorem dX7_give_38 : decode cX7_give 38 = .ok (.getfield 98, 3) := by decide +kernel
theorem dX7_give_41 : decode cX7_give 41 = .ok (.iload_n 3, 1) := by decide +kernel
theorem dX7_give_42 : decode cX7_give 42 = .ok (.iaload, 1) := by decide +kernel
theorem dX7_give_43 : decode cX7_give 43 = .ok (.iload_n 1, 1) := by decide +kernel
theorem dX7_give_44 : decode cX7_give 44 = .ok (.if_icmp .eq 13, 3) := by decide +kernel
theorem dX7_give_47 : decode cX7_give 47 = .ok (.new 114, 3) := by decide +kernel
theorem dX7_give_50 : decode cX7_give 50 = .ok (.dup, 1) := by decide +kernel
theorem dX7_give_51 : decode cX7_give 51 = .ok (.ldc 185, 2) := by decide +kernel
theorem dX7_give_53 : decode cX7_give 53 = .ok (.invokespecial 118, 3) := by decide +kernel
theorem dX7_give_56 : decode cX7_give 56 = .ok (.athrow, 1) := by decide +kernel
theorem dX7_give_57 : decode cX7_give 57 = .ok (.aload_n 0, 1) := by decide +kernel
theorem dX7_give_58 : decode cX7_give 58 = .ok (.getfield 10, 3) := by decide +kernel
theorem dX7_give_61 : decode cX7_give 61 = .ok (.aload_n 0, 1) := by decide +kernel
theorem dX7_give_62 : decode cX7_give 62 = .ok (.getfield 74, 3) := by decide +kernel
theorem dX7_give_65 : decode cX7_give 65 = .ok (.iconst 1, 1) := by decide +kernel
theorem dX7_give_66 : decode cX7_give 66 = .ok (.iload_n 1, 1) := by decide +kernel
theorem dX7_give_67 : decode cX7_give 67 = .ok (.iload_n 2, 1) := by decide +kernel
theorem dX7_give_68 : decode cX7_give 68 = .ok (.iload_n 3, 1) := by decide +kernel
theorem dX7_give_69 : decode cX7_give 69 = .ok (.invokevirtual 169, 3) := by decide +kernel
theorem dX7_give_72 : decode cX7_give 72 = .ok (.istore 4, 2) := by decide +kernel
theorem dX7_give_74 : decode cX7_give 74 = .ok (.aload_n 0, 1) := by decide +kernel
theorem dX7_give_75 : decode cX7_give 75 = .ok (.getfield 26, 3) := by decide +kernel
theorem dX7_give_78 : decode cX7_give 78 = .ok (.getfield 157, 3) := by decide +kernel
theorem dX7_give_81 : decode cX7_give 81 = .ok (.getfield 98, 3) := by decide +kernel
theorem dX7_give_84 : decode cX7_give 84 = .ok (.iload_n 3, 1) := by decide +kernel
theorem dX7_give_85 : decode cX7_give 85 = .ok (.iload_n 2, 1) := by decide +kernel
theorem dX7_give_86 : decode cX7_give 86 = .ok (.iastore, 1) := by decide +kernel
theorem dX7_give_87 : decode cX7_give 87 = .ok (.aload_n 0, 1) := by decide +kernel
theorem dX7_give_88 : decode cX7_give 88 = .ok (.iload 4, 2) := by decide +kernel
theorem dX7_give_90 : decode cX7_give 90 = .ok (.invokevirtual 173, 3) := by decide +kernel
theorem dX7_give_93 : decode cX7_give 93 = .ok (.ireturn, 1) := by decide +kernel
set_option maxRecDepth 20000 in
theorem ggX7_take_X7_needMask : GoodIn wsX7_take wsX7_needMask := goodIn_ca (goodIn_r _ [9, 10, 11] (by decide +kernel) (by decide +kernel)) (goodIn_sub (fun _ h => List.mem_cons_of_mem _ (List.mem_append_right _ h)) (by decide +kernel))
set_option maxRecDepth 20000 in
theorem gX7_take_X7_needMask : GoodIn wsX7_take (va_wsS RX7 77 yX7_needMask wsX7_needMask) := goodIn_app (goodIn_of _ (by decide +kernel)) ggX7_take_X7_needMask
set_option maxRecDepth 20000 in
theorem ggX7_take_X7_needProp : GoodIn wsX7_take wsX7_needProp := goodIn_ca (goodIn_r _ [14, 10, 11] (by decide +kernel) (by decide +kernel)) (goodIn_sub (fun _ h => List.mem_cons_of_mem _ (List.mem_append_right _ h)) (by decide +kernel))
set_option maxRecDepth 20000 in
theorem gX7_take_X7_needProp : GoodIn wsX7_take (va_wsS RX7 95 yX7_needProp wsX7_needProp) := goodIn_app (goodIn_of _ (by decide +kernel)) ggX7_take_X7_needProp
set_option maxRecDepth 20000 in
theorem ggX7_take_X7_needPlay : GoodIn wsX7_take wsX7_needPlay := goodIn_ca (goodIn_r _ [18, 1, 2, 19, 44, 45, 46, 47, 48, 49, 50, 51, 52, 53, 54, 55, 56, 57, 58, 59] (by decide +kernel) (by decide +kernel)) (goodIn_sub (fun _ h => List.mem_cons_of_mem _ (List.mem_append_left _ (List.mem_append_right _ h))) (by decide +kernel))
set_option maxRecDepth 20000 in
theorem gX7_take_X7_needPlay : GoodIn wsX7_take (wsV RX7 164 RX7 yX7_needPlay wsX7_needPlay) := goodIn_app (goodIn_of _ (by decide +kernel)) ggX7_take_X7_needPlay
set_option maxRecDepth 20000 in
theorem ggX7_take_X7_needOn : GoodIn wsX7_take wsX7_needOn := goodIn_ca (goodIn_r _ [23, 1, 2, 3, 24, 25, 26, 8, 27, 44, 45, 46, 47, 48, 49, 50, 51, 52, 53, 54, 55, 56, 57, 58, 59, 60, 61, 62, 63] (by decide +kernel) (by decide +kernel)) (goodIn_sub (fun _ h => List.mem_cons_of_mem _ (List.mem_append_left _ (List.mem_append_right _ h))) (by decide +kernel))
set_option maxRecDepth 20000 in
theorem gX7_take_X7_needOn : GoodIn wsX7_take (wsV RX7 177 RX7 yX7_needOn wsX7_needOn) := goodIn_app (goodIn_of _ (by decide +kernel)) ggX7_take_X7_needOn
set_option maxRecDepth 20000 in
theorem ggX7_take_X7_endMove : GoodIn wsX7_take wsX7_endMove := goodIn_r _ [31, 32, 33, 34, 35, 19, 36, 37, 38, 39, 8, 40, 41, 42, 43, 44, 45, 46, 47, 48, 49, 50, 51, 52, 53, 54, 55, 56, 57, 58, 59, 66, 67, 68, 69, 70] (by decide +kernel) (by decide +kernel)
set_option maxRecDepth 20000 in
theorem gX7_take_X7_endMove : GoodIn wsX7_take (wsV RX7 173 RX7 yX7_endMove wsX7_endMove) := goodIn_app (goodIn_of _ (by decide +kernel)) ggX7_take_X7_endMove
theorem dX7_take_0 : decode cX7_take 0 = .ok (.iload_n 1, 1) := by decide +kernel
theorem dX7_take_1 : decode cX7_take 1 = .ok (.invokestatic 77, 3) := by decide +kernel
theorem dX7_take_4 : decode cX7_take 4 = .ok (.iload_n 2, 1) := by decide +kernel
theorem dX7_take_5 : decode cX7_take 5 = .ok (.invokestatic 95, 3) := by decide +kernel
theorem dX7_take_8 : decode cX7_take 8 = .ok (.aload_n 0, 1) := by decide +kernel
theorem dX7_take_9 : decode cX7_take 9 = .ok (.invokevirtual 164, 3) := by decide +kernel
theorem dX7_take_12 : decode cX7_take 12 = .ok (.aload_n 0, 1) := by decide +kernel
theorem dX7_take_13 : decode cX7_take 13 = .ok (.iload_n 1, 1) := by decide +kernel
theorem dX7_take_14 : decode cX7_take 14 = .ok (.invokevirtual 177, 3) := by decide +kernel
theorem dX7_take_17 : decode cX7_take 17 = .ok (.aload_n 0, 1) := by decide +kernel
theorem dX7_take_18 : decode cX7_take 18 = .ok (.getfield 26, 3) := by decide +kernel
theorem dX7_take_21 : decode cX7_take 21 = .ok (.getfield 157, 3) := by decide +kernel
theorem dX7_take_24 : decode cX7_take 24 = .ok (.getfield 98, 3) := by decide +kernel
theorem dX7_take_27 : decode cX7_take 27 = .ok (.iload_n 2, 1) := by decide +kernel
theorem dX7_take_28 : decode cX7_take 28 = .ok (.iaload, 1) := by decide +kernel
theorem dX7_take_29 : decode cX7_take 29 = .ok (.iconst (-1), 1) := by decide +kernel
theorem dX7_take_30 : decode cX7_take 30 = .ok (.if_icmp .eq 13, 3) := by decide +kernel
theorem dX7_take_33 : decode cX7_take 33 = .ok (.new 114, 3) := by decide +kernel
theorem dX7_take_36 : decode cX7_take 36 = .ok (.dup, 1) := by decide +kernel
theorem dX7_take_37 : decode cX7_take 37 = .ok (.ldc 187, 2) := by decide +kernel
theorem dX7_take_39 : decode cX7_take 39 = .ok (.invokespecial 118, 3) := by decide +kernel
theorem dX7_take_42 : decode cX7_take 42 = .ok (.athrow, 1) := by decide +kernel
theorem dX7_take_43 : decode cX7_take 43 = .ok (.aload_n 0, 1) := by decide +kernel
theorem dX7_take_44 : decode cX7_take 44 = .ok (.getfield 26, 3) := by decide +kernel
theorem dX7_take_47 : decode cX7_take 47 = .ok (.getfield 157, 3) := by decide +kernel
theorem dX7_take_50 : decode cX7_take 50 = .ok (.getfield 98, 3) := by decide +kernel
theorem dX7_take_53 : decode cX7_take 53 = .ok (.iload_n 2, 1) := by decide +kernel
theorem dX7_take_54 : decode cX7_take 54 = .ok (.iload_n 1, 1) := by decide +kernel
theorem dX7_take_55 : decode cX7_take 55 = .ok (.iastore, 1) := by decide +kernel
theorem dX7_take_56 : decode cX7_take 56 = .ok (.aload_n 0, 1) := by decide +kernel
theorem dX7_take_57 : decode cX7_take 57 = .ok (.iconst 0, 1) := by decide +kernel
theorem dX7_take_58 : decode cX7_take 58 = .ok (.invokevirtual 173, 3) := by decide +kernel
theorem dX7_take_61 : decode cX7_take 61 = .ok (.ireturn, 1) := by decide +kernel
set_option maxRecDepth 20000 in
theorem ggX7_greet_X7_needMask : GoodIn wsX7_greet wsX7_needMask := goodIn_ca (goodIn_r _ [6, 7, 8] (by decide +kernel) (by decide +kernel)) (goodIn_sub (fun _ h => List.mem_cons_of_mem _ (List.mem_append_left _ (List.mem_append_left _ (List.mem_append_right _ h)))) (by decide +kernel))
set_option maxRecDepth 20000 in
theorem gX7_greet_X7_needMask : GoodIn wsX7_greet (va_wsS RX7 77 yX7_needMask wsX7_needMask) := goodIn_app (goodIn_of _ (by decide +kernel)) ggX7_greet_X7_needMask
set_option maxRecDepth 20000 in
theorem ggX7_greet_X7_needUnlike : GoodIn wsX7_greet wsX7_needUnlike := goodIn_ca (goodIn_r _ [11, 12, 13] (by decide +kernel) (by decide +kernel)) (goodIn_sub (fun _ h => List.mem_cons_of_mem _ (List.mem_append_left _ (List.mem_append_right _ h))) (by decide +kernel))
set_option maxRecDepth 20000 in
theorem gX7_greet_X7_needUnlike : GoodIn wsX7_greet (va_wsS RX7 105 yX7_needUnlike wsX7_needUnlike) := goodIn_app (goodIn_of _ (by decide +kernel)) ggX7_greet_X7_needUnlike
set_option maxRecDepth 20000 in
theorem ggX7_greet_X7_needPlay : GoodIn wsX7_greet wsX7_needPlay := goodIn_ca (goodIn_r _ [17, 18, 19, 20, 54, 55, 56, 57, 58, 59, 60, 61, 62, 63, 64, 65, 66, 67, 68, 69] (by decide +kernel) (by decide +kernel)) (goodIn_sub (fun _ h => List.mem_cons_of_mem _ (List.mem_append_right _ h)) (by decide +kernel))
set_option maxRecDepth 20000 in
theorem gX7_greet_X7_needPlay : GoodIn wsX7_greet (wsV RX7 164 RX7 yX7_needPlay wsX7_needPlay) := goodIn_app (goodIn_of _ (by decide +kernel)) ggX7_greet_X7_needPlay
set_option maxRecDepth 20000 in
theorem ggX7_greet_X7_needOn : GoodIn wsX7_greet wsX7_needOn := goodIn_ca (goodIn_r _ [24, 18, 19, 25, 26, 27, 28, 5, 29, 54, 55, 56, 57, 58, 59, 60, 61, 62, 63, 64, 65, 66, 67, 68, 69, 70, 71, 72, 73] (by decide +kernel) (by decide +kernel)) (goodIn_sub (fun _ h => List.mem_cons_of_mem _ (List.mem_append_right _ h)) (by decide +kernel))
set_option maxRecDepth 20000 in
theorem gX7_greet_X7_needOn : GoodIn wsX7_greet (wsV RX7 177 RX7 yX7_needOn wsX7_needOn) := goodIn_app (goodIn_of _ (by decide +kernel)) ggX7_greet_X7_needOn
set_option maxRecDepth 20000 in
theorem ggX7_greet_X0_isJust : GoodIn wsX7_greet wsX0_isJust := goodIn_r _ [34, 35, 36, 37, 38, 39, 74, 75, 76, 77, 78] (by decide +kernel) (by decide +kernel)
set_option maxRecDepth 20000 in
theorem gX7_greet_X0_isJust : GoodIn wsX7_greet (wsV RX7 169 RX0 yX0_isJust wsX0_isJust) := goodIn_app (goodIn_of _ (by decide +kernel)) ggX7_greet_X0_isJust
set_option maxRecDepth 20000 in
theorem ggX7_greet_X7_endMove : GoodIn wsX7_greet wsX7_endMove := goodIn_r _ [43, 44, 2, 1, 45, 20, 46, 47, 48, 49, 5, 50, 51, 52, 53, 54, 55, 56, 57, 58, 59, 60, 61, 62, 63, 64, 65, 66, 67, 68, 69, 74, 75, 76, 77, 78] (by decide +kernel) (by decide +kernel)
set_option maxRecDepth 20000 in
theorem gX7_greet_X7_endMove : GoodIn wsX7_greet (wsV RX7 173 RX7 yX7_endMove wsX7_endMove) := goodIn_app (goodIn_of _ (by decide +kernel)) ggX7_greet_X7_endMove
theorem dX7_greet_0 : decode cX7_greet 0 = .ok (.iload_n 1, 1) := by decide +kernel
theorem dX7_greet_1 : decode cX7_greet 1 = .ok (.invokestatic 77, 3) := by decide +kernel
theorem dX7_greet_4 : decode cX7_greet 4 = .ok (.iload_n 2, 1) := by decide +kernel
theorem dX7_greet_5 : decode cX7_greet 5 = .ok (.invokestatic 77, 3) := by decide +kernel
theorem dX7_greet_8 : decode cX7_greet 8 = .ok (.iload_n 1, 1) := by decide +kernel
theorem dX7_greet_9 : decode cX7_greet 9 = .ok (.iload_n 2, 1) := by decide +kernel
theorem dX7_greet_10 : decode cX7_greet 10 = .ok (.invokestatic 105, 3) := by decide +kernel
theorem dX7_greet_13 : decode cX7_greet 13 = .ok (.aload_n 0, 1) := by decide +kernel
theorem dX7_greet_14 : decode cX7_greet 14 = .ok (.invokevirtual 164, 3) := by decide +kernel
theorem dX7_greet_17 : decode cX7_greet 17 = .ok (.aload_n 0, 1) := by decide +kernel
theorem dX7_greet_18 : decode cX7_greet 18 = .ok (.iload_n 1, 1) := by decide +kernel
theorem dX7_greet_19 : decode cX7_greet 19 = .ok (.invokevirtual 177, 3) := by decide +kernel
theorem dX7_greet_22 : decode cX7_greet 22 = .ok (.aload_n 0, 1) := by decide +kernel
theorem dX7_greet_23 : decode cX7_greet 23 = .ok (.iload_n 2, 1) := by decide +kernel
theorem dX7_greet_24 : decode cX7_greet 24 = .ok (.invokevirtual 177, 3) := by decide +kernel
theorem dX7_greet_27 : decode cX7_greet 27 = .ok (.aload_n 0, 1) := by decide +kernel
theorem dX7_greet_28 : decode cX7_greet 28 = .ok (.aload_n 0, 1) := by decide +kernel
theorem dX7_greet_29 : decode cX7_greet 29 = .ok (.getfield 10, 3) := by decide +kernel
theorem dX7_greet_32 : decode cX7_greet 32 = .ok (.aload_n 0, 1) := by decide +kernel
theorem dX7_greet_33 : decode cX7_greet 33 = .ok (.getfield 74, 3) := by decide +kernel
theorem dX7_greet_36 : decode cX7_greet 36 = .ok (.iconst 4, 1) := by decide +kernel
theorem dX7_greet_37 : decode cX7_greet 37 = .ok (.iload_n 1, 1) := by decide +kernel
theorem dX7_greet_38 : decode cX7_greet 38 = .ok (.iload_n 2, 1) := by decide +kernel
theorem dX7_greet_39 : decode cX7_greet 39 = .ok (.iconst (-1), 1) := by decide +kernel
theorem dX7_greet_40 : decode cX7_greet 40 = .ok (.invokevirtual 169, 3) := by decide +kernel
theorem dX7_greet_43 : decode cX7_greet 43 = .ok (.invokevirtual 173, 3) := by decide +kernel
theorem dX7_greet_46 : decode cX7_greet 46 = .ok (.ireturn, 1) := by decide +kernel
set_option maxRecDepth 20000 in
theorem ggX7_play_X7_needMask : GoodIn wsX7_play wsX7_needMask := goodIn_ca (goodIn_r _ [23, 1, 2] (by decide +kernel) (by decide +kernel)) (goodIn_sub (fun _ h => List.mem_cons_of_mem _ (List.mem_append_left _ (List.mem_append_right _ h))) (by decide +kernel))
set_option maxRecDepth 20000 in
theorem gX7_play_X7_needMask : GoodIn wsX7_play (va_wsS RX7 77 yX7_needMask wsX7_needMask) := goodIn_app (goodIn_of _ (by decide +kernel)) ggX7_play_X7_needMask
set_option maxRecDepth 20000 in
theorem ggX7_play_X7_needPlay : GoodIn wsX7_play wsX7_needPlay := goodIn_ca (goodIn_r _ [27, 3, 4, 28, 50, 51, 52, 53, 54, 55, 56, 57, 58, 59, 60, 61, 62, 63, 64, 65] (by decide +kernel) (by decide +kernel)) (goodIn_sub (fun _ h => List.mem_cons_of_mem _ (List.mem_append_right _ h)) (by decide +kernel))
set_option maxRecDepth 20000 in
theorem gX7_play_X7_needPlay : GoodIn wsX7_play (wsV RX7 164 RX7 yX7_needPlay wsX7_needPlay) := goodIn_app (goodIn_of _ (by decide +kernel)) ggX7_play_X7_needPlay
set_option maxRecDepth 20000 in
theorem ggX7_play_X7_needOn : GoodIn wsX7_play wsX7_needOn := goodIn_ca (goodIn_r _ [32, 3, 4, 8, 33, 34, 35, 22, 36, 50, 51, 52, 53, 54, 55, 56, 57, 58, 59, 60, 61, 62, 63, 64, 65, 71, 72, 73, 74] (by decide +kernel) (by decide +kernel)) (goodIn_sub (fun _ h => List.mem_cons_of_mem _ (List.mem_append_right _ h)) (by decide +kernel))
set_option maxRecDepth 20000 in
theorem gX7_play_X7_needOn : GoodIn wsX7_play (wsV RX7 177 RX7 yX7_needOn wsX7_needOn) := goodIn_app (goodIn_of _ (by decide +kernel)) ggX7_play_X7_needOn
set_option maxRecDepth 20000 in
theorem ggX7_play_X1_laughsNow : GoodIn wsX7_play wsX1_laughsNow := goodIn_r _ [41, 42, 43, 44, 17, 18, 19, 66, 67, 68, 69, 70] (by decide +kernel) (by decide +kernel)
set_option maxRecDepth 20000 in
theorem gX7_play_X1_laughsNow : GoodIn wsX7_play (wsV RX7 199 RX1 yX1_laughsNow wsX1_laughsNow) := goodIn_app (goodIn_of _ (by decide +kernel)) ggX7_play_X1_laughsNow
set_option maxRecDepth 20000 in
theorem ggX7_play_X7_passMinutes : GoodIn wsX7_play wsX7_passMinutes := goodIn_r _ [48, 15, 28, 14, 49, 50, 51, 52, 53, 54, 55, 56, 57, 58, 59, 60, 61, 62, 63, 64, 65] (by decide +kernel) (by decide +kernel)
set_option maxRecDepth 20000 in
theorem gX7_play_X7_passMinutes : GoodIn wsX7_play (wsV RX7 218 RX7 yX7_passMinutes wsX7_passMinutes) := goodIn_app (goodIn_of _ (by decide +kernel)) ggX7_play_X7_passMinutes
theorem dX7_play_0 : decode cX7_play 0 = .ok (.iload_n 1, 1) := by decide +kernel
theorem dX7_play_1 : decode cX7_play 1 = .ok (.ifCond .lt 14, 3) := by decide +kernel
theorem dX7_play_4 : decode cX7_play 4 = .ok (.iload_n 1, 1) := by decide +kernel
theorem dX7_play_5 : decode cX7_play 5 = .ok (.aload_n 0, 1) := by decide +kernel
theorem dX7_play_6 : decode cX7_play 6 = .ok (.getfield 56, 3) := by decide +kernel
theorem dX7_play_9 : decode cX7_play 9 = .ok (.getfield 140, 3) := by decide +kernel
theorem dX7_play_12 : decode cX7_play 12 = .ok (.if_icmp .lt 13, 3) := by decide +kernel
theorem dX7_play_15 : decode cX7_play 15 = .ok (.new 189, 3) := by decide +kernel
theorem dX7_play_18 : decode cX7_play 18 = .ok (.dup, 1) := by decide +kernel
theorem dX7_play_19 : decode cX7_play 19 = .ok (.ldc 191, 2) := by decide +kernel
theorem dX7_play_21 : decode cX7_play 21 = .ok (.invokespecial 193, 3) := by decide +kernel
theorem dX7_play_24 : decode cX7_play 24 = .ok (.athrow, 1) := by decide +kernel
theorem dX7_play_25 : decode cX7_play 25 = .ok (.iload_n 2, 1) := by decide +kernel
theorem dX7_play_26 : decode cX7_play 26 = .ok (.invokestatic 77, 3) := by decide +kernel
theorem dX7_play_29 : decode cX7_play 29 = .ok (.aload_n 0, 1) := by decide +kernel
theorem dX7_play_30 : decode cX7_play 30 = .ok (.invokevirtual 164, 3) := by decide +kernel
theorem dX7_play_33 : decode cX7_play 33 = .ok (.aload_n 0, 1) := by decide +kernel
theorem dX7_play_34 : decode cX7_play 34 = .ok (.iload_n 2, 1) := by decide +kernel
theorem dX7_play_35 : decode cX7_play 35 = .ok (.invokevirtual 177, 3) := by decide +kernel
theorem dX7_play_38 : decode cX7_play 38 = .ok (.aload_n 0, 1) := by decide +kernel
theorem dX7_play_39 : decode cX7_play 39 = .ok (.getfield 56, 3) := by decide +kernel
theorem dX7_play_42 : decode cX7_play 42 = .ok (.getfield 194, 3) := by decide +kernel
theorem dX7_play_45 : decode cX7_play 45 = .ok (.iload_n 1, 1) := by decide +kernel
theorem dX7_play_46 : decode cX7_play 46 = .ok (.iaload, 1) := by decide +kernel
theorem dX7_play_47 : decode cX7_play 47 = .ok (.istore_n 3, 1) := by decide +kernel
theorem dX7_play_48 : decode cX7_play 48 = .ok (.iload_n 3, 1) := by decide +kernel
theorem dX7_play_49 : decode cX7_play 49 = .ok (.iconst (-1), 1) := by decide +kernel
theorem dX7_play_50 : decode cX7_play 50 = .ok (.if_icmp .eq 29, 3) := by decide +kernel
theorem dX7_play_53 : decode cX7_play 53 = .ok (.aload_n 0, 1) := by decide +kernel
theorem dX7_play_54 : decode cX7_play 54 = .ok (.getfield 26, 3) := by decide +kernel
theorem dX7_play_57 : decode cX7_play 57 = .ok (.getfield 157, 3) := by decide +kernel
theorem dX7_play_60 : decode cX7_play 60 = .ok (.getfield 98, 3) := by decide +kernel
theorem dX7_play_63 : decode cX7_play 63 = .ok (.iload_n 3, 1) := by decide +kernel
theorem dX7_play_64 : decode cX7_play 64 = .ok (.iaload, 1) := by decide +kernel
theorem dX7_play_65 : decode cX7_play 65 = .ok (.iload_n 2, 1) := by decide +kernel
theorem dX7_play_66 : decode cX7_play 66 = .ok (.if_icmp .eq 13, 3) := by decide +kernel
theorem dX7_play_69 : decode cX7_play 69 = .ok (.new 114, 3) := by decide +kernel
theorem dX7_play_72 : decode cX7_play 72 = .ok (.dup, 1) := by decide +kernel
theorem dX7_play_73 : decode cX7_play 73 = .ok (.ldc 197, 2) := by decide +kernel
theorem dX7_play_75 : decode cX7_play 75 = .ok (.invokespecial 118, 3) := by decide +kernel
theorem dX7_play_78 : decode cX7_play 78 = .ok (.athrow, 1) := by decide +kernel
theorem dX7_play_79 : decode cX7_play 79 = .ok (.aload_n 0, 1) := by decide +kernel
theorem dX7_play_80 : decode cX7_play 80 = .ok (.getfield 56, 3) := by decide +kernel
theorem dX7_play_83 : decode cX7_play 83 = .ok (.iload_n 1, 1) := by decide +kernel
theorem dX7_play_84 : decode cX7_play 84 = .ok (.invokevirtual 199, 3) := by decide +kernel
theorem dX7_play_87 : decode cX7_play 87 = .ok (.istore 4, 2) := by decide +kernel
theorem dX7_play_89 : decode cX7_play 89 = .ok (.aload_n 0, 1) := by decide +kernel
theorem dX7_play_90 : decode cX7_play 90 = .ok (.getfield 56, 3) := by decide +kernel
theorem dX7_play_93 : decode cX7_play 93 = .ok (.getfield 203, 3) := by decide +kernel
theorem dX7_play_96 : decode cX7_play 96 = .ok (.iload_n 1, 1) := by decide +kernel
theorem dX7_play_97 : decode cX7_play 97 = .ok (.dup2, 1) := by decide +kernel
theorem dX7_play_98 : decode cX7_play 98 = .ok (.iaload, 1) := by decide +kernel
theorem dX7_play_99 : decode cX7_play 99 = .ok (.iconst 1, 1) := by decide +kernel
theorem dX7_play_100 : decode cX7_play 100 = .ok (.iadd, 1) := by decide +kernel
theorem dX7_play_101 : decode cX7_play 101 = .ok (.iastore, 1) := by decide +kernel
theorem dX7_play_102 : decode cX7_play 102 = .ok (.aload_n 0, 1) := by decide +kernel
theorem dX7_play_103 : decode cX7_play 103 = .ok (.dup, 1) := by decide +kernel
theorem dX7_play_104 : decode cX7_play 104 = .ok (.getfield 206, 3) := by decide +kernel
theorem dX7_play_107 : decode cX7_play 107 = .ok (.iload 4, 2) := by decide +kernel
theorem dX7_play_109 : decode cX7_play 109 = .ok (.iadd, 1) := by decide +kernel
theorem dX7_play_110 : decode cX7_play 110 = .ok (.putfield 206, 3) := by decide +kernel
theorem dX7_play_113 : decode cX7_play 113 = .ok (.aload_n 0, 1) := by decide +kernel
theorem dX7_play_114 : decode cX7_play 114 = .ok (.aload_n 0, 1) := by decide +kernel
theorem dX7_play_115 : decode cX7_play 115 = .ok (.getfield 56, 3) := by decide +kernel
theorem dX7_play_118 : decode cX7_play 118 = .ok (.getfield 209, 3) := by decide +kernel
theorem dX7_play_121 : decode cX7_play 121 = .ok (.iload_n 1, 1) := by decide +kernel
theorem dX7_play_122 : decode cX7_play 122 = .ok (.iaload, 1) := by decide +kernel
theorem dX7_play_123 : decode cX7_play 123 = .ok (.aload_n 0, 1) := by decide +kernel
theorem dX7_play_124 : decode cX7_play 124 = .ok (.getfield 148, 3) := by decide +kernel
theorem dX7_play_127 : decode cX7_play 127 = .ok (.aload_n 0, 1) := by decide +kernel
theorem dX7_play_128 : decode cX7_play 128 = .ok (.getfield 151, 3) := by decide +kernel
theorem dX7_play_131 : decode cX7_play 131 = .ok (.isub, 1) := by decide +kernel
theorem dX7_play_132 : decode cX7_play 132 = .ok (.invokestatic 212, 3) := by decide +kernel
theorem dX7_play_135 : decode cX7_play 135 = .ok (.invokevirtual 218, 3) := by decide +kernel
theorem dX7_play_138 : decode cX7_play 138 = .ok (.iload 4, 2) := by decide +kernel
theorem dX7_play_140 : decode cX7_play 140 = .ok (.ireturn, 1) := by decide +kernel
theorem dX7_state_0 : decode cX7_state 0 = .ok (.aload_n 0, 1) := by decide +kernel
theorem dX7_state_1 : decode cX7_state 1 = .ok (.getfield 70, 3) := by decide +kernel
theorem dX7_state_4 : decode cX7_state 4 = .ok (.ireturn, 1) := by decide +kernel
theorem dX7_next_0 : decode cX7_next 0 = .ok (.aload_n 0, 1) := by decide +kernel
theorem dX7_next_1 : decode cX7_next 1 = .ok (.getfield 74, 3) := by decide +kernel
theorem dX7_next_4 : decode cX7_next 4 = .ok (.ireturn, 1) := by decide +kernel
set_option maxRecDepth 20000 in
theorem ggX7_can_X3_canBeClosed : GoodIn wsX7_can wsX3_canBeClosed := goodIn_r _ [8, 9, 10, 11, 12, 13, 14, 15, 16, 17, 18, 19, 20, 21, 22, 23, 24, 25, 26, 27, 28, 29, 30, 31, 7, 32, 33, 34, 35, 36, 37, 38, 39, 40, 41, 42, 43, 44, 45, 46, 47, 48, 49, 50, 51, 52, 53, 54, 55, 56, 57, 58, 59, 60, 61, 62, 63, 64, 65, 66, 67, 68, 69, 70, 71, 72, 73, 90, 91, 92, 93, 94, 95, 96, 97, 98, 99, 100, 101, 102, 103] (by decide +kernel) (by decide +kernel)
set_option maxRecDepth 20000 in
theorem gX7_can_X3_canBeClosed : GoodIn wsX7_can (wsV RX7 221 RX3 yX3_canBeClosed wsX3_canBeClosed) := goodIn_app (goodIn_of _ (by decide +kernel)) ggX7_can_X3_canBeClosed
theorem dX7_can_0 : decode cX7_can 0 = .ok (.aload_n 0, 1) := by decide +kernel
theorem dX7_can_1 : decode cX7_can 1 = .ok (.getfield 70, 3) := by decide +kernel
theorem dX7_can_4 : decode cX7_can 4 = .ok (.iconst 1, 1) := by decide +kernel
theorem dX7_can_5 : decode cX7_can 5 = .ok (.if_icmp .ne 21, 3) := by decide +kernel
theorem dX7_can_8 : decode cX7_can 8 = .ok (.aload_n 0, 1) := by decide +kernel
theorem dX7_can_9 : decode cX7_can 9 = .ok (.getfield 35, 3) := by decide +kernel
theorem dX7_can_12 : decode cX7_can 12 = .ok (.aload_n 0, 1) := by decide +kernel
theorem dX7_can_13 : decode cX7_can 13 = .ok (.getfield 74, 3) := by decide +kernel
theorem dX7_can_16 : decode cX7_can 16 = .ok (.invokevirtual 221, 3) := by decide +kernel
theorem dX7_can_19 : decode cX7_can 19 = .ok (.ifCond .eq 7, 3) := by decide +kernel
theorem dX7_can_22 : decode cX7_can 22 = .ok (.iconst 1, 1) := by decide +kernel
theorem dX7_can_23 : decode cX7_can 23 = .ok (.goto 4, 3) := by decide +kernel
theorem dX7_can_26 : decode cX7_can 26 = .ok (.iconst 0, 1) := by decide +kernel
theorem dX7_can_27 : decode cX7_can 27 = .ok (.ireturn, 1) := by decide +kernel
set_option maxRecDepth 20000 in
theorem ggX7_way_X7_can : GoodIn wsX7_way wsX7_can := goodIn_r _ [7, 8, 9, 2, 10, 11, 12, 13, 14, 15, 16, 17, 18, 19, 20, 21, 22, 23, 24, 25, 26, 27, 28, 29, 30, 31, 32, 33, 34, 35, 36, 37, 38, 39, 40, 41, 42, 43, 6, 44, 45, 46, 47, 48, 49, 50, 51, 52, 53, 54, 55, 56, 57, 58, 59, 60, 61, 62, 63, 64, 65, 66, 67, 68, 69, 70, 71, 72, 73, 74, 75, 76, 77, 78, 107, 108, 109, 110, 111, 112, 113, 114, 115, 116, 117, 118, 119, 120, 121, 122, 123, 124, 125, 126, 127, 128, 129, 130, 131, 132, 133, 134, 135, 136] (by decide +kernel) (by decide +kernel)
set_option maxRecDepth 20000 in
theorem gX7_way_X7_can : GoodIn wsX7_way (wsV RX7 225 RX7 yX7_can wsX7_can) := goodIn_app (goodIn_of _ (by decide +kernel)) ggX7_way_X7_can
set_option maxRecDepth 20000 in
theorem ggX7_way_X4_movesTo : GoodIn wsX7_way wsX4_movesTo := goodIn_r _ [83, 84, 85, 86, 87, 88, 89, 90, 91, 43, 6, 44, 92, 93, 94, 82, 95, 96, 97, 98, 99, 100, 101, 102, 103, 104, 105, 106, 137, 138, 130, 131, 132, 133, 134, 126, 127, 128, 129, 135, 136] (by decide +kernel) (by decide +kernel)
set_option maxRecDepth 20000 in
theorem gX7_way_X4_movesTo : GoodIn wsX7_way (wsV RX7 229 RX4 yX4_movesTo wsX4_movesTo) := goodIn_app (goodIn_of _ (by decide +kernel)) ggX7_way_X4_movesTo
theorem dX7_way_0 : decode cX7_way 0 = .ok (.aload_n 0, 1) := by decide +kernel
theorem dX7_way_1 : decode cX7_way 1 = .ok (.invokevirtual 225, 3) := by decide +kernel
theorem dX7_way_4 : decode cX7_way 4 = .ok (.ifCond .eq 17, 3) := by decide +kernel
theorem dX7_way_7 : decode cX7_way 7 = .ok (.aload_n 0, 1) := by decide +kernel
theorem dX7_way_8 : decode cX7_way 8 = .ok (.getfield 42, 3) := by decide +kernel
theorem dX7_way_11 : decode cX7_way 11 = .ok (.aload_n 0, 1) := by decide +kernel
theorem dX7_way_12 : decode cX7_way 12 = .ok (.getfield 74, 3) := by decide +kernel
theorem dX7_way_15 : decode cX7_way 15 = .ok (.invokevirtual 229, 3) := by decide +kernel
theorem dX7_way_18 : decode cX7_way 18 = .ok (.goto 4, 3) := by decide +kernel
theorem dX7_way_21 : decode cX7_way 21 = .ok (.iconst (-1), 1) := by decide +kernel
theorem dX7_way_22 : decode cX7_way 22 = .ok (.ireturn, 1) := by decide +kernel
set_option maxRecDepth 20000 in
theorem ggX7_wayAnew_X7_can : GoodIn wsX7_wayAnew wsX7_can := goodIn_r _ [7, 8, 9, 2, 10, 11, 12, 13, 14, 15, 16, 17, 18, 19, 20, 21, 22, 23, 24, 25, 26, 27, 28, 29, 30, 31, 32, 33, 34, 35, 36, 37, 38, 39, 40, 41, 42, 43, 6, 44, 45, 46, 47, 48, 49, 50, 51, 52, 53, 54, 55, 56, 57, 58, 59, 60, 61, 62, 63, 64, 65, 66, 67, 68, 69, 70, 71, 72, 73, 74, 75, 76, 77, 78, 134, 135, 136, 137, 138, 139, 140, 141, 142, 143, 144, 145, 146, 147, 148, 149, 150, 151, 152, 153, 154, 155, 156, 157, 158, 159, 160, 161, 162, 163] (by decide +kernel) (by decide +kernel)
set_option maxRecDepth 20000 in
theorem gX7_wayAnew_X7_can : GoodIn wsX7_wayAnew (wsV RX7 225 RX7 yX7_can wsX7_can) := goodIn_app (goodIn_of _ (by decide +kernel)) ggX7_wayAnew_X7_can
set_option maxRecDepth 20000 in
theorem ggX7_wayAnew_X6_movesTo : GoodIn wsX7_wayAnew wsX6_movesTo := goodIn_r _ [83, 84, 85, 86, 87, 88, 89, 90, 91, 92, 93, 94, 95, 82, 96, 97, 98, 99, 100, 101, 102, 103, 104, 105, 106, 107, 108, 109, 110, 111, 112, 113, 43, 6, 44, 114, 115, 116, 117, 118, 119, 31, 32, 33, 120, 61, 62, 63, 64, 65, 19, 20, 21, 66, 67, 68, 69, 121, 122, 123, 124, 125, 126, 127, 128, 129, 130, 131, 132, 133, 164, 165, 166, 167, 157, 158, 159, 160, 161, 153, 154, 155, 156, 162, 163] (by decide +kernel) (by decide +kernel)
set_option maxRecDepth 20000 in
theorem gX7_wayAnew_X6_movesTo : GoodIn wsX7_wayAnew (wsV RX7 232 RX6 yX6_movesTo wsX6_movesTo) := goodIn_app (goodIn_of _ (by decide +kernel)) ggX7_wayAnew_X6_movesTo
theorem dX7_wayAnew_0 : decode cX7_wayAnew 0 = .ok (.aload_n 0, 1) := by decide +kernel
theorem dX7_wayAnew_1 : decode cX7_wayAnew 1 = .ok (.invokevirtual 225, 3) := by decide +kernel
theorem dX7_wayAnew_4 : decode cX7_wayAnew 4 = .ok (.ifCond .eq 17, 3) := by decide +kernel
theorem dX7_wayAnew_7 : decode cX7_wayAnew 7 = .ok (.aload_n 0, 1) := by decide +kernel
theorem dX7_wayAnew_8 : decode cX7_wayAnew 8 = .ok (.getfield 49, 3) := by decide +kernel
theorem dX7_wayAnew_11 : decode cX7_wayAnew 11 = .ok (.aload_n 0, 1) := by decide +kernel
theorem dX7_wayAnew_12 : decode cX7_wayAnew 12 = .ok (.getfield 74, 3) := by decide +kernel
theorem dX7_wayAnew_15 : decode cX7_wayAnew 15 = .ok (.invokevirtual 232, 3) := by decide +kernel
theorem dX7_wayAnew_18 : decode cX7_wayAnew 18 = .ok (.goto 4, 3) := by decide +kernel
theorem dX7_wayAnew_21 : decode cX7_wayAnew 21 = .ok (.iconst (-1), 1) := by decide +kernel
theorem dX7_wayAnew_22 : decode cX7_wayAnew 22 = .ok (.ireturn, 1) := by decide +kernel
set_option maxRecDepth 20000 in
theorem ggX7_isKnown_X7_needMask : GoodIn wsX7_isKnown wsX7_needMask := goodIn_ca (goodIn_r _ [4, 5, 6] (by decide +kernel) (by decide +kernel)) (goodIn_sub (fun _ h => List.mem_cons_of_mem _ (List.mem_append_right _ h)) (by decide +kernel))
set_option maxRecDepth 20000 in
theorem gX7_isKnown_X7_needMask : GoodIn wsX7_isKnown (va_wsS RX7 77 yX7_needMask wsX7_needMask) := goodIn_app (goodIn_of _ (by decide +kernel)) ggX7_isKnown_X7_needMask
set_option maxRecDepth 20000 in
theorem ggX7_isKnown_X7_needSecret : GoodIn wsX7_isKnown wsX7_needSecret := goodIn_ca (goodIn_r _ [9, 5, 6] (by decide +kernel) (by decide +kernel)) (goodIn_sub (fun _ h => List.mem_cons_of_mem _ (List.mem_append_right _ h)) (by decide +kernel))
set_option maxRecDepth 20000 in
theorem gX7_isKnown_X7_needSecret : GoodIn wsX7_isKnown (va_wsS RX7 81 yX7_needSecret wsX7_needSecret) := goodIn_app (goodIn_of _ (by decide +kernel)) ggX7_isKnown_X7_needSecret
set_option maxRecDepth 20000 in
theorem ggX7_isKnown_X7_loreToAsk : GoodIn wsX7_isKnown wsX7_loreToAsk := goodIn_r _ [13, 14, 15, 16, 17, 26, 27, 28, 29, 30, 31, 32, 33, 34, 35, 36, 37, 38, 39, 40, 41, 42, 43, 44, 45] (by decide +kernel) (by decide +kernel)
set_option maxRecDepth 20000 in
theorem gX7_isKnown_X7_loreToAsk : GoodIn wsX7_isKnown (wsV RX7 233 RX7 yX7_loreToAsk wsX7_loreToAsk) := goodIn_app (goodIn_of _ (by decide +kernel)) ggX7_isKnown_X7_loreToAsk
set_option maxRecDepth 20000 in
theorem ggX7_isKnown_X2_isKnower : GoodIn wsX7_isKnown wsX2_isKnower := goodIn_r _ [22, 23, 24, 3, 25, 46, 47] (by decide +kernel) (by decide +kernel)
set_option maxRecDepth 20000 in
theorem gX7_isKnown_X2_isKnower : GoodIn wsX7_isKnown (wsV RX7 84 RX2 yX2_isKnower wsX2_isKnower) := goodIn_app (goodIn_of _ (by decide +kernel)) ggX7_isKnown_X2_isKnower
theorem dX7_isKnown_0 : decode cX7_isKnown 0 = .ok (.iload_n 1, 1) := by decide +kernel
theorem dX7_isKnown_1 : decode cX7_isKnown 1 = .ok (.invokestatic 77, 3) := by decide +kernel
theorem dX7_isKnown_4 : decode cX7_isKnown 4 = .ok (.iload_n 2, 1) := by decide +kernel
theorem dX7_isKnown_5 : decode cX7_isKnown 5 = .ok (.invokestatic 81, 3) := by decide +kernel
theorem dX7_isKnown_8 : decode cX7_isKnown 8 = .ok (.aload_n 0, 1) := by decide +kernel
theorem dX7_isKnown_9 : decode cX7_isKnown 9 = .ok (.invokevirtual 233, 3) := by decide +kernel
theorem dX7_isKnown_12 : decode cX7_isKnown 12 = .ok (.iload_n 1, 1) := by decide +kernel
theorem dX7_isKnown_13 : decode cX7_isKnown 13 = .ok (.iload_n 2, 1) := by decide +kernel
theorem dX7_isKnown_14 : decode cX7_isKnown 14 = .ok (.invokevirtual 84, 3) := by decide +kernel
theorem dX7_isKnown_17 : decode cX7_isKnown 17 = .ok (.ireturn, 1) := by decide +kernel
set_option maxRecDepth 20000 in
theorem ggX7_holder_X7_needProp : GoodIn wsX7_holder wsX7_needProp := goodIn_ca (goodIn_r _ [5, 6, 7] (by decide +kernel) (by decide +kernel)) (goodIn_sub (fun _ h => List.mem_cons_of_mem _ (List.mem_append_right _ h)) (by decide +kernel))
set_option maxRecDepth 20000 in
theorem gX7_holder_X7_needProp : GoodIn wsX7_holder (va_wsS RX7 95 yX7_needProp wsX7_needProp) := goodIn_app (goodIn_of _ (by decide +kernel)) ggX7_holder_X7_needProp
set_option maxRecDepth 20000 in
theorem ggX7_holder_X7_loreToAsk : GoodIn wsX7_holder wsX7_loreToAsk := goodIn_r _ [11, 12, 13, 14, 15, 18, 19, 20, 21, 22, 23, 24, 25, 26, 27, 28, 29, 30, 31, 32, 33, 34, 35, 36, 37] (by decide +kernel) (by decide +kernel)
set_option maxRecDepth 20000 in
theorem gX7_holder_X7_loreToAsk : GoodIn wsX7_holder (wsV RX7 233 RX7 yX7_loreToAsk wsX7_loreToAsk) := goodIn_app (goodIn_of _ (by decide +kernel)) ggX7_holder_X7_loreToAsk
theorem dX7_holder_0 : decode cX7_holder 0 = .ok (.iload_n 1, 1) := by decide +kernel
theorem dX7_holder_1 : decode cX7_holder 1 = .ok (.invokestatic 95, 3) := by decide +kernel
theorem dX7_holder_4 : decode cX7_holder 4 = .ok (.aload_n 0, 1) := by decide +kernel
theorem dX7_holder_5 : decode cX7_holder 5 = .ok (.invokevirtual 233, 3) := by decide +kernel
theorem dX7_holder_8 : decode cX7_holder 8 = .ok (.getfield 98, 3) := by decide +kernel
theorem dX7_holder_11 : decode cX7_holder 11 = .ok (.iload_n 1, 1) := by decide +kernel
theorem dX7_holder_12 : decode cX7_holder 12 = .ok (.iaload, 1) := by decide +kernel
theorem dX7_holder_13 : decode cX7_holder 13 = .ok (.ireturn, 1) := by decide +kernel
theorem dX7_count_0 : decode cX7_count 0 = .ok (.iload_n 1, 1) := by decide +kernel
theorem dX7_count_1 : decode cX7_count 1 = .ok (.tableswitch 72 0 5 #[39, 44, 49, 54, 59, 67], 39) := by decide +kernel
theorem dX7_count_40 : decode cX7_count 40 = .ok (.aload_n 0, 1) := by decide +kernel
theorem dX7_count_41 : decode cX7_count 41 = .ok (.getfield 151, 3) := by decide +kernel
theorem dX7_count_44 : decode cX7_count 44 = .ok (.ireturn, 1) := by decide +kernel
theorem dX7_count_45 : decode cX7_count 45 = .ok (.aload_n 0, 1) := by decide +kernel
theorem dX7_count_46 : decode cX7_count 46 = .ok (.getfield 206, 3) := by decide +kernel
theorem dX7_count_49 : decode cX7_count 49 = .ok (.ireturn, 1) := by decide +kernel
theorem dX7_count_50 : decode cX7_count 50 = .ok (.aload_n 0, 1) := by decide +kernel
theorem dX7_count_51 : decode cX7_count 51 = .ok (.getfield 237, 3) := by decide +kernel
theorem dX7_count_54 : decode cX7_count 54 = .ok (.ireturn, 1) := by decide +kernel
theorem dX7_count_55 : decode cX7_count 55 = .ok (.aload_n 0, 1) := by decide +kernel
theorem dX7_count_56 : decode cX7_count 56 = .ok (.getfield 240, 3) := by decide +kernel
theorem dX7_count_59 : decode cX7_count 59 = .ok (.ireturn, 1) := by decide +kernel
theorem dX7_count_60 : decode cX7_count 60 = .ok (.aload_n 0, 1) := by decide +kernel
theorem dX7_count_61 : decode cX7_count 61 = .ok (.getfield 26, 3) := by decide +kernel
theorem dX7_count_64 : decode cX7_count 64 = .ok (.getfield 128, 3) := by decide +kernel
theorem dX7_count_67 : decode cX7_count 67 = .ok (.ireturn, 1) := by decide +kernel
theorem dX7_count_68 : decode cX7_count 68 = .ok (.aload_n 0, 1) := by decide +kernel
theorem dX7_count_69 : decode cX7_count 69 = .ok (.getfield 154, 3) := by decide +kernel
theorem dX7_count_72 : decode cX7_count 72 = .ok (.ireturn, 1) := by decide +kernel
theorem dX7_count_73 : decode cX7_count 73 = .ok (.new 243, 3) := by decide +kernel
theorem dX7_count_76 : decode cX7_count 76 = .ok (.dup, 1) := by decide +kernel
theorem dX7_count_77 : decode cX7_count 77 = .ok (.ldc 245, 2) := by decide +kernel
theorem dX7_count_79 : decode cX7_count 79 = .ok (.invokespecial 247, 3) := by decide +kernel
theorem dX7_count_82 : decode cX7_count 82 = .ok (.athrow, 1) := by decide +kernel
set_option maxRecDepth 20000 in
theorem ggX7_share_X7_needMask : GoodIn wsX7_share wsX7_needMask := goodIn_ca (goodIn_r _ [6, 7, 8] (by decide +kernel) (by decide +kernel)) (goodIn_sub (fun _ h => List.mem_cons_of_mem _ (List.mem_append_right _ h)) (by decide +kernel))
set_option maxRecDepth 20000 in
theorem gX7_share_X7_needMask : GoodIn wsX7_share (va_wsS RX7 77 yX7_needMask wsX7_needMask) := goodIn_app (goodIn_of _ (by decide +kernel)) ggX7_share_X7_needMask
theorem dX7_share_0 : decode cX7_share 0 = .ok (.iload_n 1, 1) := by decide +kernel
theorem dX7_share_1 : decode cX7_share 1 = .ok (.invokestatic 77, 3) := by decide +kernel
theorem dX7_share_4 : decode cX7_share 4 = .ok (.iconst 0, 1) := by decide +kernel
theorem dX7_share_5 : decode cX7_share 5 = .ok (.istore_n 2, 1) := by decide +kernel
theorem dX7_share_6 : decode cX7_share 6 = .ok (.iconst 0, 1) := by decide +kernel
theorem dX7_share_7 : decode cX7_share 7 = .ok (.istore_n 3, 1) := by decide +kernel
theorem dX7_share_8 : decode cX7_share 8 = .ok (.iload_n 3, 1) := by decide +kernel
theorem dX7_share_9 : decode cX7_share 9 = .ok (.bipush 6, 2) := by decide +kernel
theorem dX7_share_11 : decode cX7_share 11 = .ok (.if_icmp .ge 18, 3) := by decide +kernel
theorem dX7_share_14 : decode cX7_share 14 = .ok (.iload_n 2, 1) := by decide +kernel
theorem dX7_share_15 : decode cX7_share 15 = .ok (.aload_n 0, 1) := by decide +kernel
theorem dX7_share_16 : decode cX7_share 16 = .ok (.getfield 60, 3) := by decide +kernel
theorem dX7_share_19 : decode cX7_share 19 = .ok (.iload_n 3, 1) := by decide +kernel
theorem dX7_share_20 : decode cX7_share 20 = .ok (.iaload, 1) := by decide +kernel
theorem dX7_share_21 : decode cX7_share 21 = .ok (.iadd, 1) := by decide +kernel
