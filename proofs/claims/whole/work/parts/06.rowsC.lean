theorem dX7_needMask_0 : decode cX7_needMask 0 = .ok (.iload_n 0, 1) := by decide +kernel
theorem dX7_needMask_1 : decode cX7_needMask 1 = .ok (.ifCond .lt 9, 3) := by decide +kernel
theorem dX7_needMask_4 : decode cX7_needMask 4 = .ok (.iload_n 0, 1) := by decide +kernel
theorem dX7_needMask_5 : decode cX7_needMask 5 = .ok (.bipush 6, 2) := by decide +kernel
theorem dX7_needMask_7 : decode cX7_needMask 7 = .ok (.if_icmp .lt 13, 3) := by decide +kernel
theorem dX7_needMask_10 : decode cX7_needMask 10 = .ok (.new 189, 3) := by decide +kernel
theorem dX7_needMask_13 : decode cX7_needMask 13 = .ok (.dup, 1) := by decide +kernel
theorem dX7_needMask_14 : decode cX7_needMask 14 = .ok (.ldc 248, 2) := by decide +kernel
theorem dX7_needMask_16 : decode cX7_needMask 16 = .ok (.invokespecial 193, 3) := by decide +kernel
theorem dX7_needMask_19 : decode cX7_needMask 19 = .ok (.athrow, 1) := by decide +kernel
theorem dX7_needMask_20 : decode cX7_needMask 20 = .ok (.return_, 1) := by decide +kernel
theorem dX7_needSecret_0 : decode cX7_needSecret 0 = .ok (.iload_n 0, 1) := by decide +kernel
theorem dX7_needSecret_1 : decode cX7_needSecret 1 = .ok (.ifCond .lt 8, 3) := by decide +kernel
theorem dX7_needSecret_4 : decode cX7_needSecret 4 = .ok (.iload_n 0, 1) := by decide +kernel
theorem dX7_needSecret_5 : decode cX7_needSecret 5 = .ok (.iconst 4, 1) := by decide +kernel
theorem dX7_needSecret_6 : decode cX7_needSecret 6 = .ok (.if_icmp .lt 13, 3) := by decide +kernel
theorem dX7_needSecret_9 : decode cX7_needSecret 9 = .ok (.new 189, 3) := by decide +kernel
theorem dX7_needSecret_12 : decode cX7_needSecret 12 = .ok (.dup, 1) := by decide +kernel
theorem dX7_needSecret_13 : decode cX7_needSecret 13 = .ok (.ldc 250, 2) := by decide +kernel
theorem dX7_needSecret_15 : decode cX7_needSecret 15 = .ok (.invokespecial 193, 3) := by decide +kernel
theorem dX7_needSecret_18 : decode cX7_needSecret 18 = .ok (.athrow, 1) := by decide +kernel
theorem dX7_needSecret_19 : decode cX7_needSecret 19 = .ok (.return_, 1) := by decide +kernel
theorem dX7_needProp_0 : decode cX7_needProp 0 = .ok (.iload_n 0, 1) := by decide +kernel
theorem dX7_needProp_1 : decode cX7_needProp 1 = .ok (.ifCond .lt 8, 3) := by decide +kernel
theorem dX7_needProp_4 : decode cX7_needProp 4 = .ok (.iload_n 0, 1) := by decide +kernel
theorem dX7_needProp_5 : decode cX7_needProp 5 = .ok (.iconst 4, 1) := by decide +kernel
theorem dX7_needProp_6 : decode cX7_needProp 6 = .ok (.if_icmp .lt 13, 3) := by decide +kernel
theorem dX7_needProp_9 : decode cX7_needProp 9 = .ok (.new 189, 3) := by decide +kernel
theorem dX7_needProp_12 : decode cX7_needProp 12 = .ok (.dup, 1) := by decide +kernel
theorem dX7_needProp_13 : decode cX7_needProp 13 = .ok (.ldc 252, 2) := by decide +kernel
theorem dX7_needProp_15 : decode cX7_needProp 15 = .ok (.invokespecial 193, 3) := by decide +kernel
theorem dX7_needProp_18 : decode cX7_needProp 18 = .ok (.athrow, 1) := by decide +kernel
theorem dX7_needProp_19 : decode cX7_needProp 19 = .ok (.return_, 1) := by decide +kernel
theorem dX7_needRange_0 : decode cX7_needRange 0 = .ok (.iload_n 0, 1) := by decide +kernel
theorem dX7_needRange_1 : decode cX7_needRange 1 = .ok (.iload_n 1, 1) := by decide +kernel
theorem dX7_needRange_2 : decode cX7_needRange 2 = .ok (.if_icmp .lt 8, 3) := by decide +kernel
theorem dX7_needRange_5 : decode cX7_needRange 5 = .ok (.iload_n 0, 1) := by decide +kernel
theorem dX7_needRange_6 : decode cX7_needRange 6 = .ok (.iload_n 2, 1) := by decide +kernel
theorem dX7_needRange_7 : decode cX7_needRange 7 = .ok (.if_icmp .le 13, 3) := by decide +kernel
theorem dX7_needRange_10 : decode cX7_needRange 10 = .ok (.new 243, 3) := by decide +kernel
theorem dX7_needRange_13 : decode cX7_needRange 13 = .ok (.dup, 1) := by decide +kernel
theorem dX7_needRange_14 : decode cX7_needRange 14 = .ok (.ldc 254, 2) := by decide +kernel
theorem dX7_needRange_16 : decode cX7_needRange 16 = .ok (.invokespecial 247, 3) := by decide +kernel
theorem dX7_needRange_19 : decode cX7_needRange 19 = .ok (.athrow, 1) := by decide +kernel
theorem dX7_needRange_20 : decode cX7_needRange 20 = .ok (.return_, 1) := by decide +kernel
theorem dX7_needUnlike_0 : decode cX7_needUnlike 0 = .ok (.iload_n 0, 1) := by decide +kernel
theorem dX7_needUnlike_1 : decode cX7_needUnlike 1 = .ok (.iload_n 1, 1) := by decide +kernel
theorem dX7_needUnlike_2 : decode cX7_needUnlike 2 = .ok (.if_icmp .ne 14, 3) := by decide +kernel
theorem dX7_needUnlike_5 : decode cX7_needUnlike 5 = .ok (.new 243, 3) := by decide +kernel
theorem dX7_needUnlike_8 : decode cX7_needUnlike 8 = .ok (.dup, 1) := by decide +kernel
theorem dX7_needUnlike_9 : decode cX7_needUnlike 9 = .ok (.ldc_w 256, 3) := by decide +kernel
theorem dX7_needUnlike_12 : decode cX7_needUnlike 12 = .ok (.invokespecial 247, 3) := by decide +kernel
theorem dX7_needUnlike_15 : decode cX7_needUnlike 15 = .ok (.athrow, 1) := by decide +kernel
theorem dX7_needUnlike_16 : decode cX7_needUnlike 16 = .ok (.return_, 1) := by decide +kernel
theorem dX7_needPlay_0 : decode cX7_needPlay 0 = .ok (.aload_n 0, 1) := by decide +kernel
theorem dX7_needPlay_1 : decode cX7_needPlay 1 = .ok (.getfield 70, 3) := by decide +kernel
theorem dX7_needPlay_4 : decode cX7_needPlay 4 = .ok (.iconst 1, 1) := by decide +kernel
theorem dX7_needPlay_5 : decode cX7_needPlay 5 = .ok (.if_icmp .eq 14, 3) := by decide +kernel
theorem dX7_needPlay_8 : decode cX7_needPlay 8 = .ok (.new 114, 3) := by decide +kernel
theorem dX7_needPlay_11 : decode cX7_needPlay 11 = .ok (.dup, 1) := by decide +kernel
theorem dX7_needPlay_12 : decode cX7_needPlay 12 = .ok (.ldc_w 258, 3) := by decide +kernel
theorem dX7_needPlay_15 : decode cX7_needPlay 15 = .ok (.invokespecial 118, 3) := by decide +kernel
theorem dX7_needPlay_18 : decode cX7_needPlay 18 = .ok (.athrow, 1) := by decide +kernel
theorem dX7_needPlay_19 : decode cX7_needPlay 19 = .ok (.return_, 1) := by decide +kernel
theorem dX7_needNoPlay_0 : decode cX7_needNoPlay 0 = .ok (.aload_n 0, 1) := by decide +kernel
theorem dX7_needNoPlay_1 : decode cX7_needNoPlay 1 = .ok (.getfield 70, 3) := by decide +kernel
theorem dX7_needNoPlay_4 : decode cX7_needNoPlay 4 = .ok (.iconst 1, 1) := by decide +kernel
theorem dX7_needNoPlay_5 : decode cX7_needNoPlay 5 = .ok (.if_icmp .ne 14, 3) := by decide +kernel
theorem dX7_needNoPlay_8 : decode cX7_needNoPlay 8 = .ok (.new 114, 3) := by decide +kernel
theorem dX7_needNoPlay_11 : decode cX7_needNoPlay 11 = .ok (.dup, 1) := by decide +kernel
theorem dX7_needNoPlay_12 : decode cX7_needNoPlay 12 = .ok (.ldc_w 260, 3) := by decide +kernel
theorem dX7_needNoPlay_15 : decode cX7_needNoPlay 15 = .ok (.invokespecial 118, 3) := by decide +kernel
theorem dX7_needNoPlay_18 : decode cX7_needNoPlay 18 = .ok (.athrow, 1) := by decide +kernel
theorem dX7_needNoPlay_19 : decode cX7_needNoPlay 19 = .ok (.return_, 1) := by decide +kernel
set_option maxRecDepth 20000 in
theorem ggX7_needOn_X7_isIn : GoodIn wsX7_needOn wsX7_isIn := goodIn_r _ [8] (by decide +kernel) (by decide +kernel)
set_option maxRecDepth 20000 in
theorem gX7_needOn_X7_isIn : GoodIn wsX7_needOn (va_wsS RX7 131 yX7_isIn wsX7_isIn) := goodIn_app (goodIn_of _ (by decide +kernel)) ggX7_needOn_X7_isIn
theorem dX7_needOn_0 : decode cX7_needOn 0 = .ok (.aload_n 0, 1) := by decide +kernel
theorem dX7_needOn_1 : decode cX7_needOn 1 = .ok (.getfield 26, 3) := by decide +kernel
theorem dX7_needOn_4 : decode cX7_needOn 4 = .ok (.getfield 128, 3) := by decide +kernel
theorem dX7_needOn_7 : decode cX7_needOn 7 = .ok (.iload_n 1, 1) := by decide +kernel
theorem dX7_needOn_8 : decode cX7_needOn 8 = .ok (.invokestatic 131, 3) := by decide +kernel
theorem dX7_needOn_11 : decode cX7_needOn 11 = .ok (.ifCond .ne 14, 3) := by decide +kernel
theorem dX7_needOn_14 : decode cX7_needOn 14 = .ok (.new 114, 3) := by decide +kernel
theorem dX7_needOn_17 : decode cX7_needOn 17 = .ok (.dup, 1) := by decide +kernel
theorem dX7_needOn_18 : decode cX7_needOn 18 = .ok (.ldc_w 262, 3) := by decide +kernel
theorem dX7_needOn_21 : decode cX7_needOn 21 = .ok (.invokespecial 118, 3) := by decide +kernel
theorem dX7_needOn_24 : decode cX7_needOn 24 = .ok (.athrow, 1) := by decide +kernel
theorem dX7_needOn_25 : decode cX7_needOn 25 = .ok (.return_, 1) := by decide +kernel
theorem dX7_loreToAsk_0 : decode cX7_loreToAsk 0 = .ok (.aload_n 0, 1) := by decide +kernel
theorem dX7_loreToAsk_1 : decode cX7_loreToAsk 1 = .ok (.getfield 70, 3) := by decide +kernel
theorem dX7_loreToAsk_4 : decode cX7_loreToAsk 4 = .ok (.ifCond .ne 10, 3) := by decide +kernel
theorem dX7_loreToAsk_7 : decode cX7_loreToAsk 7 = .ok (.aload_n 0, 1) := by decide +kernel
theorem dX7_loreToAsk_8 : decode cX7_loreToAsk 8 = .ok (.getfield 19, 3) := by decide +kernel
theorem dX7_loreToAsk_11 : decode cX7_loreToAsk 11 = .ok (.goto 10, 3) := by decide +kernel
theorem dX7_loreToAsk_14 : decode cX7_loreToAsk 14 = .ok (.aload_n 0, 1) := by decide +kernel
theorem dX7_loreToAsk_15 : decode cX7_loreToAsk 15 = .ok (.getfield 26, 3) := by decide +kernel
theorem dX7_loreToAsk_18 : decode cX7_loreToAsk 18 = .ok (.getfield 157, 3) := by decide +kernel
theorem dX7_loreToAsk_21 : decode cX7_loreToAsk 21 = .ok (.areturn, 1) := by decide +kernel
set_option maxRecDepth 20000 in
theorem ggX7_wouldSpoil_X3_canBeClosed : GoodIn wsX7_wouldSpoil wsX3_canBeClosed := goodIn_r _ [9, 10, 11, 12, 13, 14, 15, 16, 17, 18, 19, 20, 21, 22, 23, 24, 25, 26, 27, 28, 29, 30, 31, 32, 8, 33, 34, 35, 36, 37, 38, 39, 40, 41, 42, 43, 44, 45, 46, 47, 48, 49, 50, 51, 52, 53, 54, 55, 56, 57, 58, 59, 60, 61, 62, 63, 64, 65, 66, 67, 68, 69, 70, 71, 72, 73, 74, 100, 101, 102, 96, 97, 98, 99, 103, 104, 105, 106, 107, 108, 109] (by decide +kernel) (by decide +kernel)
set_option maxRecDepth 20000 in
theorem gX7_wouldSpoil_X3_canBeClosed : GoodIn wsX7_wouldSpoil (wsV RX7 221 RX3 yX3_canBeClosed wsX3_canBeClosed) := goodIn_app (goodIn_of _ (by decide +kernel)) ggX7_wouldSpoil_X3_canBeClosed
set_option maxRecDepth 20000 in
theorem ggX7_wouldSpoil_X2_learn : GoodIn wsX7_wouldSpoil wsX2_learn := goodIn_r _ [69, 24, 108, 109] (by decide +kernel) (by decide +kernel)
set_option maxRecDepth 20000 in
theorem gX7_wouldSpoil_X2_learn : GoodIn wsX7_wouldSpoil (wsV RX7 88 RX2 yX2_learn wsX2_learn) := goodIn_app (goodIn_of _ (by decide +kernel)) ggX7_wouldSpoil_X2_learn
set_option maxRecDepth 20000 in
theorem ggX7_wouldSpoil_X2_forget : GoodIn wsX7_wouldSpoil wsX2_forget := goodIn_r _ [79, 24, 108, 109] (by decide +kernel) (by decide +kernel)
set_option maxRecDepth 20000 in
theorem gX7_wouldSpoil_X2_forget : GoodIn wsX7_wouldSpoil (wsV RX7 92 RX2 yX2_forget wsX2_forget) := goodIn_app (goodIn_of _ (by decide +kernel)) ggX7_wouldSpoil_X2_forget
theorem dX7_wouldSpoil_0 : decode cX7_wouldSpoil 0 = .ok (.aload_n 0, 1) := by decide +kernel
theorem dX7_wouldSpoil_1 : decode cX7_wouldSpoil 1 = .ok (.getfield 35, 3) := by decide +kernel
theorem dX7_wouldSpoil_4 : decode cX7_wouldSpoil 4 = .ok (.aload_n 0, 1) := by decide +kernel
theorem dX7_wouldSpoil_5 : decode cX7_wouldSpoil 5 = .ok (.getfield 74, 3) := by decide +kernel
theorem dX7_wouldSpoil_8 : decode cX7_wouldSpoil 8 = .ok (.invokevirtual 221, 3) := by decide +kernel
theorem dX7_wouldSpoil_11 : decode cX7_wouldSpoil 11 = .ok (.ifCond .ne 5, 3) := by decide +kernel
theorem dX7_wouldSpoil_14 : decode cX7_wouldSpoil 14 = .ok (.iconst 0, 1) := by decide +kernel
theorem dX7_wouldSpoil_15 : decode cX7_wouldSpoil 15 = .ok (.ireturn, 1) := by decide +kernel
theorem dX7_wouldSpoil_16 : decode cX7_wouldSpoil 16 = .ok (.aload_n 0, 1) := by decide +kernel
theorem dX7_wouldSpoil_17 : decode cX7_wouldSpoil 17 = .ok (.getfield 26, 3) := by decide +kernel
theorem dX7_wouldSpoil_20 : decode cX7_wouldSpoil 20 = .ok (.getfield 157, 3) := by decide +kernel
theorem dX7_wouldSpoil_23 : decode cX7_wouldSpoil 23 = .ok (.iload_n 1, 1) := by decide +kernel
theorem dX7_wouldSpoil_24 : decode cX7_wouldSpoil 24 = .ok (.iload_n 2, 1) := by decide +kernel
theorem dX7_wouldSpoil_25 : decode cX7_wouldSpoil 25 = .ok (.invokevirtual 88, 3) := by decide +kernel
theorem dX7_wouldSpoil_28 : decode cX7_wouldSpoil 28 = .ok (.aload_n 0, 1) := by decide +kernel
theorem dX7_wouldSpoil_29 : decode cX7_wouldSpoil 29 = .ok (.getfield 35, 3) := by decide +kernel
theorem dX7_wouldSpoil_32 : decode cX7_wouldSpoil 32 = .ok (.aload_n 0, 1) := by decide +kernel
theorem dX7_wouldSpoil_33 : decode cX7_wouldSpoil 33 = .ok (.getfield 74, 3) := by decide +kernel
theorem dX7_wouldSpoil_36 : decode cX7_wouldSpoil 36 = .ok (.invokevirtual 221, 3) := by decide +kernel
theorem dX7_wouldSpoil_39 : decode cX7_wouldSpoil 39 = .ok (.istore_n 3, 1) := by decide +kernel
theorem dX7_wouldSpoil_40 : decode cX7_wouldSpoil 40 = .ok (.aload_n 0, 1) := by decide +kernel
theorem dX7_wouldSpoil_41 : decode cX7_wouldSpoil 41 = .ok (.getfield 26, 3) := by decide +kernel
theorem dX7_wouldSpoil_44 : decode cX7_wouldSpoil 44 = .ok (.getfield 157, 3) := by decide +kernel
theorem dX7_wouldSpoil_47 : decode cX7_wouldSpoil 47 = .ok (.iload_n 1, 1) := by decide +kernel
theorem dX7_wouldSpoil_48 : decode cX7_wouldSpoil 48 = .ok (.iload_n 2, 1) := by decide +kernel
theorem dX7_wouldSpoil_49 : decode cX7_wouldSpoil 49 = .ok (.invokevirtual 92, 3) := by decide +kernel
theorem dX7_wouldSpoil_52 : decode cX7_wouldSpoil 52 = .ok (.iload_n 3, 1) := by decide +kernel
theorem dX7_wouldSpoil_53 : decode cX7_wouldSpoil 53 = .ok (.ifCond .ne 7, 3) := by decide +kernel
theorem dX7_wouldSpoil_56 : decode cX7_wouldSpoil 56 = .ok (.iconst 1, 1) := by decide +kernel
theorem dX7_wouldSpoil_57 : decode cX7_wouldSpoil 57 = .ok (.goto 4, 3) := by decide +kernel
theorem dX7_wouldSpoil_60 : decode cX7_wouldSpoil 60 = .ok (.iconst 0, 1) := by decide +kernel
theorem dX7_wouldSpoil_61 : decode cX7_wouldSpoil 61 = .ok (.ireturn, 1) := by decide +kernel
set_option maxRecDepth 20000 in
theorem ggX7_endMove_X7_passMinutes : GoodIn wsX7_endMove wsX7_passMinutes := goodIn_r _ [11, 12, 5, 13, 14, 15, 16, 17, 18, 19, 20, 21, 22, 23, 24, 25, 26, 27, 28, 29, 30] (by decide +kernel) (by decide +kernel)
set_option maxRecDepth 20000 in
theorem gX7_endMove_X7_passMinutes : GoodIn wsX7_endMove (wsV RX7 218 RX7 yX7_passMinutes wsX7_passMinutes) := goodIn_app (goodIn_of _ (by decide +kernel)) ggX7_endMove_X7_passMinutes
theorem dX7_endMove_0 : decode cX7_endMove 0 = .ok (.aload_n 0, 1) := by decide +kernel
theorem dX7_endMove_1 : decode cX7_endMove 1 = .ok (.dup, 1) := by decide +kernel
theorem dX7_endMove_2 : decode cX7_endMove 2 = .ok (.getfield 154, 3) := by decide +kernel
theorem dX7_endMove_5 : decode cX7_endMove 5 = .ok (.iconst 1, 1) := by decide +kernel
theorem dX7_endMove_6 : decode cX7_endMove 6 = .ok (.iadd, 1) := by decide +kernel
theorem dX7_endMove_7 : decode cX7_endMove 7 = .ok (.putfield 154, 3) := by decide +kernel
theorem dX7_endMove_10 : decode cX7_endMove 10 = .ok (.iload_n 1, 1) := by decide +kernel
theorem dX7_endMove_11 : decode cX7_endMove 11 = .ok (.ifCond .eq 42, 3) := by decide +kernel
theorem dX7_endMove_14 : decode cX7_endMove 14 = .ok (.aload_n 0, 1) := by decide +kernel
theorem dX7_endMove_15 : decode cX7_endMove 15 = .ok (.dup, 1) := by decide +kernel
theorem dX7_endMove_16 : decode cX7_endMove 16 = .ok (.getfield 74, 3) := by decide +kernel
theorem dX7_endMove_19 : decode cX7_endMove 19 = .ok (.iconst 1, 1) := by decide +kernel
theorem dX7_endMove_20 : decode cX7_endMove 20 = .ok (.iadd, 1) := by decide +kernel
theorem dX7_endMove_21 : decode cX7_endMove 21 = .ok (.putfield 74, 3) := by decide +kernel
theorem dX7_endMove_24 : decode cX7_endMove 24 = .ok (.aload_n 0, 1) := by decide +kernel
theorem dX7_endMove_25 : decode cX7_endMove 25 = .ok (.getfield 74, 3) := by decide +kernel
theorem dX7_endMove_28 : decode cX7_endMove 28 = .ok (.aload_n 0, 1) := by decide +kernel
theorem dX7_endMove_29 : decode cX7_endMove 29 = .ok (.getfield 10, 3) := by decide +kernel
theorem dX7_endMove_32 : decode cX7_endMove 32 = .ok (.getfield 111, 3) := by decide +kernel
theorem dX7_endMove_35 : decode cX7_endMove 35 = .ok (.if_icmp .lt 18, 3) := by decide +kernel
theorem dX7_endMove_38 : decode cX7_endMove 38 = .ok (.aload_n 0, 1) := by decide +kernel
theorem dX7_endMove_39 : decode cX7_endMove 39 = .ok (.iconst 2, 1) := by decide +kernel
theorem dX7_endMove_40 : decode cX7_endMove 40 = .ok (.putfield 70, 3) := by decide +kernel
theorem dX7_endMove_43 : decode cX7_endMove 43 = .ok (.aload_n 0, 1) := by decide +kernel
theorem dX7_endMove_44 : decode cX7_endMove 44 = .ok (.dup, 1) := by decide +kernel
theorem dX7_endMove_45 : decode cX7_endMove 45 = .ok (.getfield 237, 3) := by decide +kernel
theorem dX7_endMove_48 : decode cX7_endMove 48 = .ok (.iconst 1, 1) := by decide +kernel
theorem dX7_endMove_49 : decode cX7_endMove 49 = .ok (.iadd, 1) := by decide +kernel
theorem dX7_endMove_50 : decode cX7_endMove 50 = .ok (.putfield 237, 3) := by decide +kernel
theorem dX7_endMove_53 : decode cX7_endMove 53 = .ok (.aload_n 0, 1) := by decide +kernel
theorem dX7_endMove_54 : decode cX7_endMove 54 = .ok (.iconst 1, 1) := by decide +kernel
theorem dX7_endMove_55 : decode cX7_endMove 55 = .ok (.invokevirtual 218, 3) := by decide +kernel
theorem dX7_endMove_58 : decode cX7_endMove 58 = .ok (.iload_n 1, 1) := by decide +kernel
theorem dX7_endMove_59 : decode cX7_endMove 59 = .ok (.ifCond .eq 7, 3) := by decide +kernel
theorem dX7_endMove_62 : decode cX7_endMove 62 = .ok (.iconst 2, 1) := by decide +kernel
theorem dX7_endMove_63 : decode cX7_endMove 63 = .ok (.goto 4, 3) := by decide +kernel
theorem dX7_endMove_66 : decode cX7_endMove 66 = .ok (.iconst 1, 1) := by decide +kernel
theorem dX7_endMove_67 : decode cX7_endMove 67 = .ok (.ireturn, 1) := by decide +kernel
theorem dX7_passMinutes_0 : decode cX7_passMinutes 0 = .ok (.aload_n 0, 1) := by decide +kernel
theorem dX7_passMinutes_1 : decode cX7_passMinutes 1 = .ok (.dup, 1) := by decide +kernel
theorem dX7_passMinutes_2 : decode cX7_passMinutes 2 = .ok (.getfield 151, 3) := by decide +kernel
theorem dX7_passMinutes_5 : decode cX7_passMinutes 5 = .ok (.iload_n 1, 1) := by decide +kernel
theorem dX7_passMinutes_6 : decode cX7_passMinutes 6 = .ok (.iadd, 1) := by decide +kernel
theorem dX7_passMinutes_7 : decode cX7_passMinutes 7 = .ok (.putfield 151, 3) := by decide +kernel
theorem dX7_passMinutes_10 : decode cX7_passMinutes 10 = .ok (.aload_n 0, 1) := by decide +kernel
theorem dX7_passMinutes_11 : decode cX7_passMinutes 11 = .ok (.getfield 70, 3) := by decide +kernel
theorem dX7_passMinutes_14 : decode cX7_passMinutes 14 = .ok (.iconst 1, 1) := by decide +kernel
theorem dX7_passMinutes_15 : decode cX7_passMinutes 15 = .ok (.if_icmp .ne 29, 3) := by decide +kernel
theorem dX7_passMinutes_18 : decode cX7_passMinutes 18 = .ok (.aload_n 0, 1) := by decide +kernel
theorem dX7_passMinutes_19 : decode cX7_passMinutes 19 = .ok (.getfield 151, 3) := by decide +kernel
theorem dX7_passMinutes_22 : decode cX7_passMinutes 22 = .ok (.aload_n 0, 1) := by decide +kernel
theorem dX7_passMinutes_23 : decode cX7_passMinutes 23 = .ok (.getfield 148, 3) := by decide +kernel
theorem dX7_passMinutes_26 : decode cX7_passMinutes 26 = .ok (.if_icmp .lt 18, 3) := by decide +kernel
theorem dX7_passMinutes_29 : decode cX7_passMinutes 29 = .ok (.aload_n 0, 1) := by decide +kernel
theorem dX7_passMinutes_30 : decode cX7_passMinutes 30 = .ok (.iconst 3, 1) := by decide +kernel
theorem dX7_passMinutes_31 : decode cX7_passMinutes 31 = .ok (.putfield 70, 3) := by decide +kernel
theorem dX7_passMinutes_34 : decode cX7_passMinutes 34 = .ok (.aload_n 0, 1) := by decide +kernel
theorem dX7_passMinutes_35 : decode cX7_passMinutes 35 = .ok (.dup, 1) := by decide +kernel
theorem dX7_passMinutes_36 : decode cX7_passMinutes 36 = .ok (.getfield 240, 3) := by decide +kernel
theorem dX7_passMinutes_39 : decode cX7_passMinutes 39 = .ok (.iconst 1, 1) := by decide +kernel
theorem dX7_passMinutes_40 : decode cX7_passMinutes 40 = .ok (.iadd, 1) := by decide +kernel
theorem dX7_passMinutes_41 : decode cX7_passMinutes 41 = .ok (.putfield 240, 3) := by decide +kernel
theorem dX7_passMinutes_44 : decode cX7_passMinutes 44 = .ok (.return_, 1) := by decide +kernel
theorem dX8_init_0 : decode cX8_init 0 = .ok (.aload_n 0, 1) := by decide +kernel
theorem dX8_init_1 : decode cX8_init 1 = .ok (.invokespecial 1, 3) := by decide +kernel
theorem dX8_init_4 : decode cX8_init 4 = .ok (.aload_n 0, 1) := by decide +kernel
theorem dX8_init_5 : decode cX8_init 5 = .ok (.iconst 4, 1) := by decide +kernel
theorem dX8_init_6 : decode cX8_init 6 = .ok (.newarray .int, 2) := by decide +kernel
theorem dX8_init_8 : decode cX8_init 8 = .ok (.putfield 7, 3) := by decide +kernel
theorem dX8_init_11 : decode cX8_init 11 = .ok (.aload_n 0, 1) := by decide +kernel
theorem dX8_init_12 : decode cX8_init 12 = .ok (.iconst 4, 1) := by decide +kernel
theorem dX8_init_13 : decode cX8_init 13 = .ok (.newarray .int, 2) := by decide +kernel
theorem dX8_init_15 : decode cX8_init 15 = .ok (.putfield 13, 3) := by decide +kernel
theorem dX8_init_18 : decode cX8_init 18 = .ok (.aload_n 0, 1) := by decide +kernel
theorem dX8_init_19 : decode cX8_init 19 = .ok (.bipush 12, 2) := by decide +kernel
theorem dX8_init_21 : decode cX8_init 21 = .ok (.newarray .int, 2) := by decide +kernel
theorem dX8_init_23 : decode cX8_init 23 = .ok (.putfield 16, 3) := by decide +kernel
theorem dX8_init_26 : decode cX8_init 26 = .ok (.aload_n 0, 1) := by decide +kernel
theorem dX8_init_27 : decode cX8_init 27 = .ok (.bipush 12, 2) := by decide +kernel
theorem dX8_init_29 : decode cX8_init 29 = .ok (.newarray .int, 2) := by decide +kernel
theorem dX8_init_31 : decode cX8_init 31 = .ok (.putfield 19, 3) := by decide +kernel
theorem dX8_init_34 : decode cX8_init 34 = .ok (.aload_n 0, 1) := by decide +kernel
theorem dX8_init_35 : decode cX8_init 35 = .ok (.bipush 12, 2) := by decide +kernel
theorem dX8_init_37 : decode cX8_init 37 = .ok (.newarray .int, 2) := by decide +kernel
theorem dX8_init_39 : decode cX8_init 39 = .ok (.putfield 22, 3) := by decide +kernel
theorem dX8_init_42 : decode cX8_init 42 = .ok (.aload_n 0, 1) := by decide +kernel
theorem dX8_init_43 : decode cX8_init 43 = .ok (.bipush 12, 2) := by decide +kernel
theorem dX8_init_45 : decode cX8_init 45 = .ok (.newarray .int, 2) := by decide +kernel
theorem dX8_init_47 : decode cX8_init 47 = .ok (.putfield 25, 3) := by decide +kernel
theorem dX8_init_50 : decode cX8_init 50 = .ok (.aload_n 0, 1) := by decide +kernel
theorem dX8_init_51 : decode cX8_init 51 = .ok (.bipush 6, 2) := by decide +kernel
theorem dX8_init_53 : decode cX8_init 53 = .ok (.newarray .int, 2) := by decide +kernel
theorem dX8_init_55 : decode cX8_init 55 = .ok (.putfield 28, 3) := by decide +kernel
theorem dX8_init_58 : decode cX8_init 58 = .ok (.aload_n 0, 1) := by decide +kernel
theorem dX8_init_59 : decode cX8_init 59 = .ok (.bipush 6, 2) := by decide +kernel
theorem dX8_init_61 : decode cX8_init 61 = .ok (.newarray .int, 2) := by decide +kernel
theorem dX8_init_63 : decode cX8_init 63 = .ok (.putfield 31, 3) := by decide +kernel
theorem dX8_init_66 : decode cX8_init 66 = .ok (.aload_n 0, 1) := by decide +kernel
theorem dX8_init_67 : decode cX8_init 67 = .ok (.bipush 6, 2) := by decide +kernel
theorem dX8_init_69 : decode cX8_init 69 = .ok (.newarray .int, 2) := by decide +kernel
theorem dX8_init_71 : decode cX8_init 71 = .ok (.putfield 34, 3) := by decide +kernel
theorem dX8_init_74 : decode cX8_init 74 = .ok (.aload_n 0, 1) := by decide +kernel
theorem dX8_init_75 : decode cX8_init 75 = .ok (.bipush 6, 2) := by decide +kernel
theorem dX8_init_77 : decode cX8_init 77 = .ok (.newarray .int, 2) := by decide +kernel
theorem dX8_init_79 : decode cX8_init 79 = .ok (.putfield 37, 3) := by decide +kernel
theorem dX8_init_82 : decode cX8_init 82 = .ok (.aload_n 0, 1) := by decide +kernel
theorem dX8_init_83 : decode cX8_init 83 = .ok (.bipush 6, 2) := by decide +kernel
theorem dX8_init_85 : decode cX8_init 85 = .ok (.newarray .int, 2) := by decide +kernel
theorem dX8_init_87 : decode cX8_init 87 = .ok (.putfield 40, 3) := by decide +kernel
theorem dX8_init_90 : decode cX8_init 90 = .ok (.aload_n 0, 1) := by decide +kernel
theorem dX8_init_91 : decode cX8_init 91 = .ok (.iconst (-1), 1) := by decide +kernel
theorem dX8_init_92 : decode cX8_init 92 = .ok (.putfield 43, 3) := by decide +kernel
theorem dX8_init_95 : decode cX8_init 95 = .ok (.aload_n 0, 1) := by decide +kernel
theorem dX8_init_96 : decode cX8_init 96 = .ok (.iconst 4, 1) := by decide +kernel
theorem dX8_init_97 : decode cX8_init 97 = .ok (.newarray .int, 2) := by decide +kernel
theorem dX8_init_99 : decode cX8_init 99 = .ok (.putfield 47, 3) := by decide +kernel
theorem dX8_init_102 : decode cX8_init 102 = .ok (.aload_n 0, 1) := by decide +kernel
theorem dX8_init_103 : decode cX8_init 103 = .ok (.iconst 4, 1) := by decide +kernel
theorem dX8_init_104 : decode cX8_init 104 = .ok (.newarray .int, 2) := by decide +kernel
theorem dX8_init_106 : decode cX8_init 106 = .ok (.putfield 50, 3) := by decide +kernel
theorem dX8_init_109 : decode cX8_init 109 = .ok (.aload_n 0, 1) := by decide +kernel
theorem dX8_init_110 : decode cX8_init 110 = .ok (.iconst 4, 1) := by decide +kernel
theorem dX8_init_111 : decode cX8_init 111 = .ok (.newarray .int, 2) := by decide +kernel
theorem dX8_init_113 : decode cX8_init 113 = .ok (.putfield 53, 3) := by decide +kernel
theorem dX8_init_116 : decode cX8_init 116 = .ok (.aload_n 0, 1) := by decide +kernel
theorem dX8_init_117 : decode cX8_init 117 = .ok (.iconst 4, 1) := by decide +kernel
theorem dX8_init_118 : decode cX8_init 118 = .ok (.newarray .int, 2) := by decide +kernel
theorem dX8_init_120 : decode cX8_init 120 = .ok (.putfield 56, 3) := by decide +kernel
theorem dX8_init_123 : decode cX8_init 123 = .ok (.iconst 0, 1) := by decide +kernel
theorem dX8_init_124 : decode cX8_init 124 = .ok (.istore_n 1, 1) := by decide +kernel
theorem dX8_init_125 : decode cX8_init 125 = .ok (.iload_n 1, 1) := by decide +kernel
theorem dX8_init_126 : decode cX8_init 126 = .ok (.iconst 4, 1) := by decide +kernel
theorem dX8_init_127 : decode cX8_init 127 = .ok (.if_icmp .ge 23, 3) := by decide +kernel
theorem dX8_init_130 : decode cX8_init 130 = .ok (.aload_n 0, 1) := by decide +kernel
theorem dX8_init_131 : decode cX8_init 131 = .ok (.getfield 13, 3) := by decide +kernel
theorem dX8_init_134 : decode cX8_init 134 = .ok (.iload_n 1, 1) := by decide +kernel
theorem dX8_init_135 : decode cX8_init 135 = .ok (.iconst (-1), 1) := by decide +kernel
theorem dX8_init_136 : decode cX8_init 136 = .ok (.iastore, 1) := by decide +kernel
theorem dX8_init_137 : decode cX8_init 137 = .ok (.aload_n 0, 1) := by decide +kernel
theorem dX8_init_138 : decode cX8_init 138 = .ok (.getfield 50, 3) := by decide +kernel
theorem dX8_init_141 : decode cX8_init 141 = .ok (.iload_n 1, 1) := by decide +kernel
theorem dX8_init_142 : decode cX8_init 142 = .ok (.iconst (-1), 1) := by decide +kernel
theorem dX8_init_143 : decode cX8_init 143 = .ok (.iastore, 1) := by decide +kernel
theorem dX8_init_144 : decode cX8_init 144 = .ok (.iinc 1 1, 3) := by decide +kernel
theorem dX8_init_147 : decode cX8_init 147 = .ok (.goto (-22), 3) := by decide +kernel
theorem dX8_init_150 : decode cX8_init 150 = .ok (.iconst 0, 1) := by decide +kernel
theorem dX8_init_151 : decode cX8_init 151 = .ok (.istore_n 1, 1) := by decide +kernel
theorem dX8_init_152 : decode cX8_init 152 = .ok (.iload_n 1, 1) := by decide +kernel
theorem dX8_init_153 : decode cX8_init 153 = .ok (.bipush 6, 2) := by decide +kernel
theorem dX8_init_155 : decode cX8_init 155 = .ok (.if_icmp .ge 16, 3) := by decide +kernel
theorem dX8_init_158 : decode cX8_init 158 = .ok (.aload_n 0, 1) := by decide +kernel
theorem dX8_init_159 : decode cX8_init 159 = .ok (.getfield 40, 3) := by decide +kernel
theorem dX8_init_162 : decode cX8_init 162 = .ok (.iload_n 1, 1) := by decide +kernel
theorem dX8_init_163 : decode cX8_init 163 = .ok (.iconst 1, 1) := by decide +kernel
theorem dX8_init_164 : decode cX8_init 164 = .ok (.iastore, 1) := by decide +kernel
theorem dX8_init_165 : decode cX8_init 165 = .ok (.iinc 1 1, 3) := by decide +kernel
theorem dX8_init_168 : decode cX8_init 168 = .ok (.goto (-16), 3) := by decide +kernel
theorem dX8_init_171 : decode cX8_init 171 = .ok (.return_, 1) := by decide +kernel
theorem dX8_thrown_0 : decode cX8_thrown 0 = .ok (.aload_n 0, 1) := by decide +kernel
theorem dX8_thrown_1 : decode cX8_thrown 1 = .ok (.getfield 59, 3) := by decide +kernel
theorem dX8_thrown_4 : decode cX8_thrown 4 = .ok (.ireturn, 1) := by decide +kernel
theorem dX8_fails_0 : decode cX8_fails 0 = .ok (.aload_n 0, 1) := by decide +kernel
theorem dX8_fails_1 : decode cX8_fails 1 = .ok (.iload_n 1, 1) := by decide +kernel
theorem dX8_fails_2 : decode cX8_fails 2 = .ok (.putfield 59, 3) := by decide +kernel
theorem dX8_fails_5 : decode cX8_fails 5 = .ok (.iload_n 1, 1) := by decide +kernel
theorem dX8_fails_6 : decode cX8_fails 6 = .ok (.ifCond .le 7, 3) := by decide +kernel
theorem dX8_fails_9 : decode cX8_fails 9 = .ok (.iconst 1, 1) := by decide +kernel
theorem dX8_fails_10 : decode cX8_fails 10 = .ok (.goto 4, 3) := by decide +kernel
theorem dX8_fails_13 : decode cX8_fails 13 = .ok (.iconst 0, 1) := by decide +kernel
theorem dX8_fails_14 : decode cX8_fails 14 = .ok (.ireturn, 1) := by decide +kernel
theorem dX8_isIn_0 : decode cX8_isIn 0 = .ok (.iload_n 0, 1) := by decide +kernel
theorem dX8_isIn_1 : decode cX8_isIn 1 = .ok (.iload_n 1, 1) := by decide +kernel
theorem dX8_isIn_2 : decode cX8_isIn 2 = .ok (.if_icmp .lt 12, 3) := by decide +kernel
theorem dX8_isIn_5 : decode cX8_isIn 5 = .ok (.iload_n 0, 1) := by decide +kernel
theorem dX8_isIn_6 : decode cX8_isIn 6 = .ok (.iload_n 2, 1) := by decide +kernel
theorem dX8_isIn_7 : decode cX8_isIn 7 = .ok (.if_icmp .gt 7, 3) := by decide +kernel
theorem dX8_isIn_10 : decode cX8_isIn 10 = .ok (.iconst 1, 1) := by decide +kernel
theorem dX8_isIn_11 : decode cX8_isIn 11 = .ok (.goto 4, 3) := by decide +kernel
theorem dX8_isIn_14 : decode cX8_isIn 14 = .ok (.iconst 0, 1) := by decide +kernel
theorem dX8_isIn_15 : decode cX8_isIn 15 = .ok (.ireturn, 1) := by decide +kernel
set_option maxRecDepth 20000 in
theorem ggX8_isMask_X8_isIn : GoodIn wsX8_isMask wsX8_isIn := goodIn_r _ [4] (by decide +kernel) (by decide +kernel)
set_option maxRecDepth 20000 in
theorem gX8_isMask_X8_isIn : GoodIn wsX8_isMask (va_wsS RX8 62 yX8_isIn wsX8_isIn) := goodIn_app (goodIn_of _ (by decide +kernel)) ggX8_isMask_X8_isIn
theorem dX8_isMask_0 : decode cX8_isMask 0 = .ok (.iload_n 0, 1) := by decide +kernel
theorem dX8_isMask_1 : decode cX8_isMask 1 = .ok (.iconst 0, 1) := by decide +kernel
theorem dX8_isMask_2 : decode cX8_isMask 2 = .ok (.iconst 5, 1) := by decide +kernel
theorem dX8_isMask_3 : decode cX8_isMask 3 = .ok (.invokestatic 62, 3) := by decide +kernel
theorem dX8_isMask_6 : decode cX8_isMask 6 = .ok (.ireturn, 1) := by decide +kernel
set_option maxRecDepth 20000 in
theorem ggX8_isSecret_X8_isIn : GoodIn wsX8_isSecret wsX8_isIn := goodIn_r _ [4] (by decide +kernel) (by decide +kernel)
set_option maxRecDepth 20000 in
theorem gX8_isSecret_X8_isIn : GoodIn wsX8_isSecret (va_wsS RX8 62 yX8_isIn wsX8_isIn) := goodIn_app (goodIn_of _ (by decide +kernel)) ggX8_isSecret_X8_isIn
theorem dX8_isSecret_0 : decode cX8_isSecret 0 = .ok (.iload_n 0, 1) := by decide +kernel
theorem dX8_isSecret_1 : decode cX8_isSecret 1 = .ok (.iconst 0, 1) := by decide +kernel
theorem dX8_isSecret_2 : decode cX8_isSecret 2 = .ok (.iconst 3, 1) := by decide +kernel
theorem dX8_isSecret_3 : decode cX8_isSecret 3 = .ok (.invokestatic 62, 3) := by decide +kernel
theorem dX8_isSecret_6 : decode cX8_isSecret 6 = .ok (.ireturn, 1) := by decide +kernel
set_option maxRecDepth 20000 in
theorem ggX8_isProp_X8_isIn : GoodIn wsX8_isProp wsX8_isIn := goodIn_r _ [4] (by decide +kernel) (by decide +kernel)
set_option maxRecDepth 20000 in
theorem gX8_isProp_X8_isIn : GoodIn wsX8_isProp (va_wsS RX8 62 yX8_isIn wsX8_isIn) := goodIn_app (goodIn_of _ (by decide +kernel)) ggX8_isProp_X8_isIn
theorem dX8_isProp_0 : decode cX8_isProp 0 = .ok (.iload_n 0, 1) := by decide +kernel
theorem dX8_isProp_1 : decode cX8_isProp 1 = .ok (.iconst 0, 1) := by decide +kernel
theorem dX8_isProp_2 : decode cX8_isProp 2 = .ok (.iconst 3, 1) := by decide +kernel
theorem dX8_isProp_3 : decode cX8_isProp 3 = .ok (.invokestatic 62, 3) := by decide +kernel
theorem dX8_isProp_6 : decode cX8_isProp 6 = .ok (.ireturn, 1) := by decide +kernel
theorem dX8_holds_0 : decode cX8_holds 0 = .ok (.iload_n 0, 1) := by decide +kernel
theorem dX8_holds_1 : decode cX8_holds 1 = .ok (.iload_n 1, 1) := by decide +kernel
theorem dX8_holds_2 : decode cX8_holds 2 = .ok (.ishr, 1) := by decide +kernel
theorem dX8_holds_3 : decode cX8_holds 3 = .ok (.iconst 1, 1) := by decide +kernel
theorem dX8_holds_4 : decode cX8_holds 4 = .ok (.iand, 1) := by decide +kernel
theorem dX8_holds_5 : decode cX8_holds 5 = .ok (.iconst 1, 1) := by decide +kernel
theorem dX8_holds_6 : decode cX8_holds 6 = .ok (.if_icmp .ne 7, 3) := by decide +kernel
theorem dX8_holds_9 : decode cX8_holds 9 = .ok (.iconst 1, 1) := by decide +kernel
theorem dX8_holds_10 : decode cX8_holds 10 = .ok (.goto 4, 3) := by decide +kernel
theorem dX8_holds_13 : decode cX8_holds 13 = .ok (.iconst 0, 1) := by decide +kernel
theorem dX8_holds_14 : decode cX8_holds 14 = .ok (.ireturn, 1) := by decide +kernel
theorem dX8_with_0 : decode cX8_with 0 = .ok (.iload_n 2, 1) := by decide +kernel
theorem dX8_with_1 : decode cX8_with 1 = .ok (.ifCond .eq 11, 3) := by decide +kernel
theorem dX8_with_4 : decode cX8_with 4 = .ok (.iload_n 0, 1) := by decide +kernel
theorem dX8_with_5 : decode cX8_with 5 = .ok (.iconst 1, 1) := by decide +kernel
theorem dX8_with_6 : decode cX8_with 6 = .ok (.iload_n 1, 1) := by decide +kernel
theorem dX8_with_7 : decode cX8_with 7 = .ok (.ishl, 1) := by decide +kernel
theorem dX8_with_8 : decode cX8_with 8 = .ok (.ior, 1) := by decide +kernel
theorem dX8_with_9 : decode cX8_with 9 = .ok (.goto 10, 3) := by decide +kernel
theorem dX8_with_12 : decode cX8_with 12 = .ok (.iload_n 0, 1) := by decide +kernel
theorem dX8_with_13 : decode cX8_with 13 = .ok (.iconst 1, 1) := by decide +kernel
theorem dX8_with_14 : decode cX8_with 14 = .ok (.iload_n 1, 1) := by decide +kernel
theorem dX8_with_15 : decode cX8_with 15 = .ok (.ishl, 1) := by decide +kernel
theorem dX8_with_16 : decode cX8_with 16 = .ok (.iconst (-1), 1) := by decide +kernel
theorem dX8_with_17 : decode cX8_with 17 = .ok (.ixor, 1) := by decide +kernel
theorem dX8_with_18 : decode cX8_with 18 = .ok (.iand, 1) := by decide +kernel
theorem dX8_with_19 : decode cX8_with 19 = .ok (.ireturn, 1) := by decide +kernel
set_option maxRecDepth 20000 in
theorem ggX8_knows_X8_isMask : GoodIn wsX8_knows wsX8_isMask := goodIn_r _ [7, 8, 9, 6, 10] (by decide +kernel) (by decide +kernel)
set_option maxRecDepth 20000 in
theorem gX8_knows_X8_isMask : GoodIn wsX8_knows (va_wsS RX8 66 yX8_isMask wsX8_isMask) := goodIn_app (goodIn_of _ (by decide +kernel)) ggX8_knows_X8_isMask
set_option maxRecDepth 20000 in
theorem ggX8_knows_X8_isSecret : GoodIn wsX8_knows wsX8_isSecret := goodIn_r _ [13, 8, 9, 6, 10] (by decide +kernel) (by decide +kernel)
set_option maxRecDepth 20000 in
theorem gX8_knows_X8_isSecret : GoodIn wsX8_knows (va_wsS RX8 70 yX8_isSecret wsX8_isSecret) := goodIn_app (goodIn_of _ (by decide +kernel)) ggX8_knows_X8_isSecret
set_option maxRecDepth 20000 in
theorem ggX8_knows_X8_fails : GoodIn wsX8_knows wsX8_fails := goodIn_r _ [17, 18, 25, 26, 27, 28, 29, 30, 31, 32, 33, 34, 35, 36, 37, 38, 39, 40, 41, 42, 43, 44, 45, 46, 47, 48, 49, 50, 51, 52, 53] (by decide +kernel) (by decide +kernel)
set_option maxRecDepth 20000 in
theorem gX8_knows_X8_fails : GoodIn wsX8_knows (wsV RX8 73 RX8 yX8_fails wsX8_fails) := goodIn_app (goodIn_of _ (by decide +kernel)) ggX8_knows_X8_fails
set_option maxRecDepth 20000 in
theorem ggX8_knows_X8_holds : GoodIn wsX8_knows wsX8_holds := goodIn_r _ [21] (by decide +kernel) (by decide +kernel)
set_option maxRecDepth 20000 in
theorem gX8_knows_X8_holds : GoodIn wsX8_knows (va_wsS RX8 76 yX8_holds wsX8_holds) := goodIn_app (goodIn_of _ (by decide +kernel)) ggX8_knows_X8_holds
set_option maxRecDepth 20000 in
theorem ggX8_knows_X8_with : GoodIn wsX8_knows wsX8_with := goodIn_r _ [24] (by decide +kernel) (by decide +kernel)
set_option maxRecDepth 20000 in
theorem gX8_knows_X8_with : GoodIn wsX8_knows (va_wsS RX8 80 yX8_with wsX8_with) := goodIn_app (goodIn_of _ (by decide +kernel)) ggX8_knows_X8_with
theorem dX8_knows_0 : decode cX8_knows 0 = .ok (.aload_n 0, 1) := by decide +kernel
theorem dX8_knows_1 : decode cX8_knows 1 = .ok (.iload_n 1, 1) := by decide +kernel
theorem dX8_knows_2 : decode cX8_knows 2 = .ok (.invokestatic 66, 3) := by decide +kernel
theorem dX8_knows_5 : decode cX8_knows 5 = .ok (.ifCond .eq 14, 3) := by decide +kernel
theorem dX8_knows_8 : decode cX8_knows 8 = .ok (.iload_n 2, 1) := by decide +kernel
theorem dX8_knows_9 : decode cX8_knows 9 = .ok (.invokestatic 70, 3) := by decide +kernel
theorem dX8_knows_12 : decode cX8_knows 12 = .ok (.ifCond .eq 7, 3) := by decide +kernel
theorem dX8_knows_15 : decode cX8_knows 15 = .ok (.iconst 0, 1) := by decide +kernel
theorem dX8_knows_16 : decode cX8_knows 16 = .ok (.goto 4, 3) := by decide +kernel
theorem dX8_knows_19 : decode cX8_knows 19 = .ok (.iconst 1, 1) := by decide +kernel
theorem dX8_knows_20 : decode cX8_knows 20 = .ok (.invokevirtual 73, 3) := by decide +kernel
theorem dX8_knows_23 : decode cX8_knows 23 = .ok (.ifCond .eq 5, 3) := by decide +kernel
theorem dX8_knows_26 : decode cX8_knows 26 = .ok (.iconst 0, 1) := by decide +kernel
theorem dX8_knows_27 : decode cX8_knows 27 = .ok (.ireturn, 1) := by decide +kernel
theorem dX8_knows_28 : decode cX8_knows 28 = .ok (.aload_n 0, 1) := by decide +kernel
theorem dX8_knows_29 : decode cX8_knows 29 = .ok (.getfield 7, 3) := by decide +kernel
theorem dX8_knows_32 : decode cX8_knows 32 = .ok (.iload_n 2, 1) := by decide +kernel
theorem dX8_knows_33 : decode cX8_knows 33 = .ok (.iaload, 1) := by decide +kernel
theorem dX8_knows_34 : decode cX8_knows 34 = .ok (.iload_n 1, 1) := by decide +kernel
theorem dX8_knows_35 : decode cX8_knows 35 = .ok (.invokestatic 76, 3) := by decide +kernel
theorem dX8_knows_38 : decode cX8_knows 38 = .ok (.istore 4, 2) := by decide +kernel
theorem dX8_knows_40 : decode cX8_knows 40 = .ok (.aload_n 0, 1) := by decide +kernel
theorem dX8_knows_41 : decode cX8_knows 41 = .ok (.getfield 7, 3) := by decide +kernel
theorem dX8_knows_44 : decode cX8_knows 44 = .ok (.iload_n 2, 1) := by decide +kernel
theorem dX8_knows_45 : decode cX8_knows 45 = .ok (.aload_n 0, 1) := by decide +kernel
theorem dX8_knows_46 : decode cX8_knows 46 = .ok (.getfield 7, 3) := by decide +kernel
theorem dX8_knows_49 : decode cX8_knows 49 = .ok (.iload_n 2, 1) := by decide +kernel
theorem dX8_knows_50 : decode cX8_knows 50 = .ok (.iaload, 1) := by decide +kernel
theorem dX8_knows_51 : decode cX8_knows 51 = .ok (.iload_n 1, 1) := by decide +kernel
theorem dX8_knows_52 : decode cX8_knows 52 = .ok (.iload_n 3, 1) := by decide +kernel
theorem dX8_knows_53 : decode cX8_knows 53 = .ok (.invokestatic 80, 3) := by decide +kernel
theorem dX8_knows_56 : decode cX8_knows 56 = .ok (.iastore, 1) := by decide +kernel
theorem dX8_knows_57 : decode cX8_knows 57 = .ok (.aload_n 0, 1) := by decide +kernel
theorem dX8_knows_58 : decode cX8_knows 58 = .ok (.getfield 47, 3) := by decide +kernel
theorem dX8_knows_61 : decode cX8_knows 61 = .ok (.iload_n 2, 1) := by decide +kernel
theorem dX8_knows_62 : decode cX8_knows 62 = .ok (.aload_n 0, 1) := by decide +kernel
theorem dX8_knows_63 : decode cX8_knows 63 = .ok (.getfield 84, 3) := by decide +kernel
theorem dX8_knows_66 : decode cX8_knows 66 = .ok (.ifCond .ne 12, 3) := by decide +kernel
theorem dX8_knows_69 : decode cX8_knows 69 = .ok (.aload_n 0, 1) := by decide +kernel
theorem dX8_knows_70 : decode cX8_knows 70 = .ok (.getfield 7, 3) := by decide +kernel
theorem dX8_knows_73 : decode cX8_knows 73 = .ok (.iload_n 2, 1) := by decide +kernel
theorem dX8_knows_74 : decode cX8_knows 74 = .ok (.iaload, 1) := by decide +kernel
theorem dX8_knows_75 : decode cX8_knows 75 = .ok (.goto 9, 3) := by decide +kernel
theorem dX8_knows_78 : decode cX8_knows 78 = .ok (.aload_n 0, 1) := by decide +kernel
theorem dX8_knows_79 : decode cX8_knows 79 = .ok (.getfield 47, 3) := by decide +kernel
theorem dX8_knows_82 : decode cX8_knows 82 = .ok (.iload_n 2, 1) := by decide +kernel
theorem dX8_knows_83 : decode cX8_knows 83 = .ok (.iaload, 1) := by decide +kernel
theorem dX8_knows_84 : decode cX8_knows 84 = .ok (.iastore, 1) := by decide +kernel
theorem dX8_knows_85 : decode cX8_knows 85 = .ok (.iload 4, 2) := by decide +kernel
theorem dX8_knows_87 : decode cX8_knows 87 = .ok (.ireturn, 1) := by decide +kernel
set_option maxRecDepth 20000 in
theorem ggX8_has_X8_isProp : GoodIn wsX8_has wsX8_isProp := goodIn_r _ [7, 8, 9, 6, 10] (by decide +kernel) (by decide +kernel)
set_option maxRecDepth 20000 in
theorem gX8_has_X8_isProp : GoodIn wsX8_has (va_wsS RX8 87 yX8_isProp wsX8_isProp) := goodIn_app (goodIn_of _ (by decide +kernel)) ggX8_has_X8_isProp
set_option maxRecDepth 20000 in
theorem ggX8_has_X8_isMask : GoodIn wsX8_has wsX8_isMask := goodIn_r _ [13, 8, 9, 6, 10] (by decide +kernel) (by decide +kernel)
set_option maxRecDepth 20000 in
theorem gX8_has_X8_isMask : GoodIn wsX8_has (va_wsS RX8 66 yX8_isMask wsX8_isMask) := goodIn_app (goodIn_of _ (by decide +kernel)) ggX8_has_X8_isMask
set_option maxRecDepth 20000 in
theorem ggX8_has_X8_fails : GoodIn wsX8_has wsX8_fails := goodIn_r _ [17, 18, 19, 20, 21, 22, 23, 24, 25, 26, 27, 28, 29, 30, 31, 32, 33, 34, 35, 36, 37, 38, 39, 40, 41, 42, 43, 44, 45, 46, 47] (by decide +kernel) (by decide +kernel)
set_option maxRecDepth 20000 in
theorem gX8_has_X8_fails : GoodIn wsX8_has (wsV RX8 73 RX8 yX8_fails wsX8_fails) := goodIn_app (goodIn_of _ (by decide +kernel)) ggX8_has_X8_fails
theorem dX8_has_0 : decode cX8_has 0 = .ok (.aload_n 0, 1) := by decide +kernel
theorem dX8_has_1 : decode cX8_has 1 = .ok (.iload_n 1, 1) := by decide +kernel
theorem dX8_has_2 : decode cX8_has 2 = .ok (.invokestatic 87, 3) := by decide +kernel
theorem dX8_has_5 : decode cX8_has 5 = .ok (.ifCond .eq 19, 3) := by decide +kernel
theorem dX8_has_8 : decode cX8_has 8 = .ok (.iload_n 2, 1) := by decide +kernel
theorem dX8_has_9 : decode cX8_has 9 = .ok (.iconst (-1), 1) := by decide +kernel
theorem dX8_has_10 : decode cX8_has 10 = .ok (.if_icmp .eq 10, 3) := by decide +kernel
theorem dX8_has_13 : decode cX8_has 13 = .ok (.iload_n 2, 1) := by decide +kernel
theorem dX8_has_14 : decode cX8_has 14 = .ok (.invokestatic 66, 3) := by decide +kernel
theorem dX8_has_17 : decode cX8_has 17 = .ok (.ifCond .eq 7, 3) := by decide +kernel
theorem dX8_has_20 : decode cX8_has 20 = .ok (.iconst 0, 1) := by decide +kernel
theorem dX8_has_21 : decode cX8_has 21 = .ok (.goto 4, 3) := by decide +kernel
theorem dX8_has_24 : decode cX8_has 24 = .ok (.iconst 1, 1) := by decide +kernel
theorem dX8_has_25 : decode cX8_has 25 = .ok (.invokevirtual 73, 3) := by decide +kernel
theorem dX8_has_28 : decode cX8_has 28 = .ok (.ifCond .eq 5, 3) := by decide +kernel
theorem dX8_has_31 : decode cX8_has 31 = .ok (.iconst 0, 1) := by decide +kernel
theorem dX8_has_32 : decode cX8_has 32 = .ok (.ireturn, 1) := by decide +kernel
theorem dX8_has_33 : decode cX8_has 33 = .ok (.aload_n 0, 1) := by decide +kernel
theorem dX8_has_34 : decode cX8_has 34 = .ok (.getfield 13, 3) := by decide +kernel
theorem dX8_has_37 : decode cX8_has 37 = .ok (.iload_n 1, 1) := by decide +kernel
theorem dX8_has_38 : decode cX8_has 38 = .ok (.iaload, 1) := by decide +kernel
theorem dX8_has_39 : decode cX8_has 39 = .ok (.istore_n 3, 1) := by decide +kernel
theorem dX8_has_40 : decode cX8_has 40 = .ok (.aload_n 0, 1) := by decide +kernel
theorem dX8_has_41 : decode cX8_has 41 = .ok (.getfield 13, 3) := by decide +kernel
theorem dX8_has_44 : decode cX8_has 44 = .ok (.iload_n 1, 1) := by decide +kernel
theorem dX8_has_45 : decode cX8_has 45 = .ok (.iload_n 2, 1) := by decide +kernel
theorem dX8_has_46 : decode cX8_has 46 = .ok (.iastore, 1) := by decide +kernel
theorem dX8_has_47 : decode cX8_has 47 = .ok (.aload_n 0, 1) := by decide +kernel
theorem dX8_has_48 : decode cX8_has 48 = .ok (.getfield 50, 3) := by decide +kernel
theorem dX8_has_51 : decode cX8_has 51 = .ok (.iload_n 1, 1) := by decide +kernel
theorem dX8_has_52 : decode cX8_has 52 = .ok (.aload_n 0, 1) := by decide +kernel
theorem dX8_has_53 : decode cX8_has 53 = .ok (.getfield 84, 3) := by decide +kernel
theorem dX8_has_56 : decode cX8_has 56 = .ok (.ifCond .ne 7, 3) := by decide +kernel
theorem dX8_has_59 : decode cX8_has 59 = .ok (.iload_n 2, 1) := by decide +kernel
theorem dX8_has_60 : decode cX8_has 60 = .ok (.goto 9, 3) := by decide +kernel
theorem dX8_has_63 : decode cX8_has 63 = .ok (.aload_n 0, 1) := by decide +kernel
theorem dX8_has_64 : decode cX8_has 64 = .ok (.getfield 50, 3) := by decide +kernel
theorem dX8_has_67 : decode cX8_has 67 = .ok (.iload_n 1, 1) := by decide +kernel
theorem dX8_has_68 : decode cX8_has 68 = .ok (.iaload, 1) := by decide +kernel
theorem dX8_has_69 : decode cX8_has 69 = .ok (.iastore, 1) := by decide +kernel
theorem dX8_has_70 : decode cX8_has 70 = .ok (.iload_n 3, 1) := by decide +kernel
theorem dX8_has_71 : decode cX8_has 71 = .ok (.ireturn, 1) := by decide +kernel
set_option maxRecDepth 20000 in
theorem ggX8_step_X8_isMask : GoodIn wsX8_step wsX8_isMask := goodIn_r _ [10, 11, 12, 9, 13] (by decide +kernel) (by decide +kernel)
set_option maxRecDepth 20000 in
theorem gX8_step_X8_isMask : GoodIn wsX8_step (va_wsS RX8 66 yX8_isMask wsX8_isMask) := goodIn_app (goodIn_of _ (by decide +kernel)) ggX8_step_X8_isMask
set_option maxRecDepth 20000 in
theorem ggX8_step_X8_isSecret : GoodIn wsX8_step wsX8_isSecret := goodIn_r _ [16, 11, 12, 9, 13] (by decide +kernel) (by decide +kernel)
set_option maxRecDepth 20000 in
theorem gX8_step_X8_isSecret : GoodIn wsX8_step (va_wsS RX8 70 yX8_isSecret wsX8_isSecret) := goodIn_app (goodIn_of _ (by decide +kernel)) ggX8_step_X8_isSecret
set_option maxRecDepth 20000 in
theorem ggX8_step_X8_isIn : GoodIn wsX8_step wsX8_isIn := goodIn_r _ [13] (by decide +kernel) (by decide +kernel)
set_option maxRecDepth 20000 in
theorem gX8_step_X8_isIn : GoodIn wsX8_step (va_wsS RX8 62 yX8_isIn wsX8_isIn) := goodIn_app (goodIn_of _ (by decide +kernel)) ggX8_step_X8_isIn
set_option maxRecDepth 20000 in
theorem ggX8_step_X8_fails : GoodIn wsX8_step wsX8_fails := goodIn_r _ [20, 21, 22, 23, 24, 25, 26, 27, 28, 29, 30, 31, 32, 33, 34, 35, 36, 37, 38, 39, 40, 41, 42, 43, 44, 45, 46, 47, 48, 49, 50] (by decide +kernel) (by decide +kernel)
set_option maxRecDepth 20000 in
theorem gX8_step_X8_fails : GoodIn wsX8_step (wsV RX8 73 RX8 yX8_fails wsX8_fails) := goodIn_app (goodIn_of _ (by decide +kernel)) ggX8_step_X8_fails
theorem dX8_step_0 : decode cX8_step 0 = .ok (.iload_n 2, 1) := by decide +kernel
theorem dX8_step_1 : decode cX8_step 1 = .ok (.invokestatic 66, 3) := by decide +kernel
theorem dX8_step_4 : decode cX8_step 4 = .ok (.ifCond .eq 22, 3) := by decide +kernel
theorem dX8_step_7 : decode cX8_step 7 = .ok (.iload_n 3, 1) := by decide +kernel
theorem dX8_step_8 : decode cX8_step 8 = .ok (.invokestatic 66, 3) := by decide +kernel
theorem dX8_step_11 : decode cX8_step 11 = .ok (.ifCond .eq 15, 3) := by decide +kernel
theorem dX8_step_14 : decode cX8_step 14 = .ok (.iload 4, 2) := by decide +kernel
theorem dX8_step_16 : decode cX8_step 16 = .ok (.invokestatic 70, 3) := by decide +kernel
theorem dX8_step_19 : decode cX8_step 19 = .ok (.ifCond .eq 7, 3) := by decide +kernel
theorem dX8_step_22 : decode cX8_step 22 = .ok (.iconst 1, 1) := by decide +kernel
theorem dX8_step_23 : decode cX8_step 23 = .ok (.goto 4, 3) := by decide +kernel
theorem dX8_step_26 : decode cX8_step 26 = .ok (.iconst 0, 1) := by decide +kernel
theorem dX8_step_27 : decode cX8_step 27 = .ok (.istore 5, 2) := by decide +kernel
theorem dX8_step_29 : decode cX8_step 29 = .ok (.iload_n 1, 1) := by decide +kernel
theorem dX8_step_30 : decode cX8_step 30 = .ok (.iconst 0, 1) := by decide +kernel
theorem dX8_step_31 : decode cX8_step 31 = .ok (.iconst 4, 1) := by decide +kernel
theorem dX8_step_32 : decode cX8_step 32 = .ok (.invokestatic 62, 3) := by decide +kernel
theorem dX8_step_35 : decode cX8_step 35 = .ok (.ifCond .eq 12, 3) := by decide +kernel
theorem dX8_step_38 : decode cX8_step 38 = .ok (.iload_n 2, 1) := by decide +kernel
theorem dX8_step_39 : decode cX8_step 39 = .ok (.iload_n 3, 1) := by decide +kernel
theorem dX8_step_40 : decode cX8_step 40 = .ok (.if_icmp .eq 7, 3) := by decide +kernel
theorem dX8_step_43 : decode cX8_step 43 = .ok (.iconst 1, 1) := by decide +kernel
theorem dX8_step_44 : decode cX8_step 44 = .ok (.goto 4, 3) := by decide +kernel
theorem dX8_step_47 : decode cX8_step 47 = .ok (.iconst 0, 1) := by decide +kernel
theorem dX8_step_48 : decode cX8_step 48 = .ok (.istore 6, 2) := by decide +kernel
theorem dX8_step_50 : decode cX8_step 50 = .ok (.aload_n 0, 1) := by decide +kernel
theorem dX8_step_51 : decode cX8_step 51 = .ok (.iload 5, 2) := by decide +kernel
theorem dX8_step_53 : decode cX8_step 53 = .ok (.ifCond .ne 7, 3) := by decide +kernel
theorem dX8_step_56 : decode cX8_step 56 = .ok (.iconst 1, 1) := by decide +kernel
theorem dX8_step_57 : decode cX8_step 57 = .ok (.goto 34, 3) := by decide +kernel
theorem dX8_step_60 : decode cX8_step 60 = .ok (.iload 6, 2) := by decide +kernel
theorem dX8_step_62 : decode cX8_step 62 = .ok (.ifCond .ne 7, 3) := by decide +kernel
theorem dX8_step_65 : decode cX8_step 65 = .ok (.iconst 2, 1) := by decide +kernel
theorem dX8_step_66 : decode cX8_step 66 = .ok (.goto 25, 3) := by decide +kernel
theorem dX8_step_69 : decode cX8_step 69 = .ok (.aload_n 0, 1) := by decide +kernel
theorem dX8_step_70 : decode cX8_step 70 = .ok (.getfield 90, 3) := by decide +kernel
theorem dX8_step_73 : decode cX8_step 73 = .ok (.bipush 12, 2) := by decide +kernel
theorem dX8_step_75 : decode cX8_step 75 = .ok (.if_icmp .eq 11, 3) := by decide +kernel
theorem dX8_step_78 : decode cX8_step 78 = .ok (.aload_n 0, 1) := by decide +kernel
theorem dX8_step_79 : decode cX8_step 79 = .ok (.getfield 84, 3) := by decide +kernel
theorem dX8_step_82 : decode cX8_step 82 = .ok (.iconst 1, 1) := by decide +kernel
theorem dX8_step_83 : decode cX8_step 83 = .ok (.if_icmp .ne 7, 3) := by decide +kernel
theorem dX8_step_86 : decode cX8_step 86 = .ok (.iconst 3, 1) := by decide +kernel
theorem dX8_step_87 : decode cX8_step 87 = .ok (.goto 4, 3) := by decide +kernel
theorem dX8_step_90 : decode cX8_step 90 = .ok (.iconst 0, 1) := by decide +kernel
theorem dX8_step_91 : decode cX8_step 91 = .ok (.invokevirtual 73, 3) := by decide +kernel
theorem dX8_step_94 : decode cX8_step 94 = .ok (.ifCond .eq 5, 3) := by decide +kernel
theorem dX8_step_97 : decode cX8_step 97 = .ok (.iconst 0, 1) := by decide +kernel
theorem dX8_step_98 : decode cX8_step 98 = .ok (.ireturn, 1) := by decide +kernel
theorem dX8_step_99 : decode cX8_step 99 = .ok (.aload_n 0, 1) := by decide +kernel
theorem dX8_step_100 : decode cX8_step 100 = .ok (.getfield 16, 3) := by decide +kernel
theorem dX8_step_103 : decode cX8_step 103 = .ok (.aload_n 0, 1) := by decide +kernel
theorem dX8_step_104 : decode cX8_step 104 = .ok (.getfield 90, 3) := by decide +kernel
theorem dX8_step_107 : decode cX8_step 107 = .ok (.iload_n 1, 1) := by decide +kernel
theorem dX8_step_108 : decode cX8_step 108 = .ok (.iastore, 1) := by decide +kernel
theorem dX8_step_109 : decode cX8_step 109 = .ok (.aload_n 0, 1) := by decide +kernel
theorem dX8_step_110 : decode cX8_step 110 = .ok (.getfield 19, 3) := by decide +kernel
theorem dX8_step_113 : decode cX8_step 113 = .ok (.aload_n 0, 1) := by decide +kernel
theorem dX8_step_114 : decode cX8_step 114 = .ok (.getfield 90, 3) := by decide +kernel
theorem dX8_step_117 : decode cX8_step 117 = .ok (.iload_n 2, 1) := by decide +kernel
theorem dX8_step_118 : decode cX8_step 118 = .ok (.iastore, 1) := by decide +kernel
theorem dX8_step_119 : decode cX8_step 119 = .ok (.aload_n 0, 1) := by decide +kernel
theorem dX8_step_120 : decode cX8_step 120 = .ok (.getfield 22, 3) := by decide +kernel
theorem dX8_step_123 : decode cX8_step 123 = .ok (.aload_n 0, 1) := by decide +kernel
theorem dX8_step_124 : decode cX8_step 124 = .ok (.getfield 90, 3) := by decide +kernel
theorem dX8_step_127 : decode cX8_step 127 = .ok (.iload_n 3, 1) := by decide +kernel
theorem dX8_step_128 : decode cX8_step 128 = .ok (.iastore, 1) := by decide +kernel
theorem dX8_step_129 : decode cX8_step 129 = .ok (.aload_n 0, 1) := by decide +kernel
theorem dX8_step_130 : decode cX8_step 130 = .ok (.getfield 25, 3) := by decide +kernel
theorem dX8_step_133 : decode cX8_step 133 = .ok (.aload_n 0, 1) := by decide +kernel
theorem dX8_step_134 : decode cX8_step 134 = .ok (.getfield 90, 3) := by decide +kernel
theorem dX8_step_137 : decode cX8_step 137 = .ok (.iload 4, 2) := by decide +kernel
theorem dX8_step_139 : decode cX8_step 139 = .ok (.iastore, 1) := by decide +kernel
theorem dX8_step_140 : decode cX8_step 140 = .ok (.aload_n 0, 1) := by decide +kernel
theorem dX8_step_141 : decode cX8_step 141 = .ok (.dup, 1) := by decide +kernel
theorem dX8_step_142 : decode cX8_step 142 = .ok (.getfield 90, 3) := by decide +kernel
theorem dX8_step_145 : decode cX8_step 145 = .ok (.iconst 1, 1) := by decide +kernel
theorem dX8_step_146 : decode cX8_step 146 = .ok (.iadd, 1) := by decide +kernel
theorem dX8_step_147 : decode cX8_step 147 = .ok (.putfield 90, 3) := by decide +kernel
theorem dX8_step_150 : decode cX8_step 150 = .ok (.aload_n 0, 1) := by decide +kernel
theorem dX8_step_151 : decode cX8_step 151 = .ok (.getfield 90, 3) := by decide +kernel
theorem dX8_step_154 : decode cX8_step 154 = .ok (.ireturn, 1) := by decide +kernel
set_option maxRecDepth 20000 in
theorem ggX8_tear_X8_fails : GoodIn wsX8_tear wsX8_fails := goodIn_r _ [7, 8, 9, 10, 11, 12, 13, 14, 15, 16, 17, 18, 19, 20, 21, 22, 23, 24, 25, 26, 27, 28, 29, 30, 31, 32, 33, 34, 35, 36, 37] (by decide +kernel) (by decide +kernel)
set_option maxRecDepth 20000 in
theorem gX8_tear_X8_fails : GoodIn wsX8_tear (wsV RX8 73 RX8 yX8_fails wsX8_fails) := goodIn_app (goodIn_of _ (by decide +kernel)) ggX8_tear_X8_fails
theorem dX8_tear_0 : decode cX8_tear 0 = .ok (.aload_n 0, 1) := by decide +kernel
theorem dX8_tear_1 : decode cX8_tear 1 = .ok (.aload_n 0, 1) := by decide +kernel
theorem dX8_tear_2 : decode cX8_tear 2 = .ok (.getfield 84, 3) := by decide +kernel
theorem dX8_tear_5 : decode cX8_tear 5 = .ok (.iconst 1, 1) := by decide +kernel
theorem dX8_tear_6 : decode cX8_tear 6 = .ok (.if_icmp .ne 7, 3) := by decide +kernel
theorem dX8_tear_9 : decode cX8_tear 9 = .ok (.iconst 1, 1) := by decide +kernel
theorem dX8_tear_10 : decode cX8_tear 10 = .ok (.goto 4, 3) := by decide +kernel
theorem dX8_tear_13 : decode cX8_tear 13 = .ok (.iconst 0, 1) := by decide +kernel
theorem dX8_tear_14 : decode cX8_tear 14 = .ok (.invokevirtual 73, 3) := by decide +kernel
theorem dX8_tear_17 : decode cX8_tear 17 = .ok (.ifCond .eq 5, 3) := by decide +kernel
theorem dX8_tear_20 : decode cX8_tear 20 = .ok (.iconst 0, 1) := by decide +kernel
theorem dX8_tear_21 : decode cX8_tear 21 = .ok (.ireturn, 1) := by decide +kernel
theorem dX8_tear_22 : decode cX8_tear 22 = .ok (.aload_n 0, 1) := by decide +kernel
theorem dX8_tear_23 : decode cX8_tear 23 = .ok (.getfield 90, 3) := by decide +kernel
theorem dX8_tear_26 : decode cX8_tear 26 = .ok (.istore_n 1, 1) := by decide +kernel
theorem dX8_tear_27 : decode cX8_tear 27 = .ok (.aload_n 0, 1) := by decide +kernel
theorem dX8_tear_28 : decode cX8_tear 28 = .ok (.iconst 0, 1) := by decide +kernel
theorem dX8_tear_29 : decode cX8_tear 29 = .ok (.putfield 90, 3) := by decide +kernel
theorem dX8_tear_32 : decode cX8_tear 32 = .ok (.iload_n 1, 1) := by decide +kernel
theorem dX8_tear_33 : decode cX8_tear 33 = .ok (.ireturn, 1) := by decide +kernel
set_option maxRecDepth 20000 in
theorem ggX8_ill_X8_isMask : GoodIn wsX8_ill wsX8_isMask := goodIn_r _ [6, 7, 8, 5, 9] (by decide +kernel) (by decide +kernel)
set_option maxRecDepth 20000 in
theorem gX8_ill_X8_isMask : GoodIn wsX8_ill (va_wsS RX8 66 yX8_isMask wsX8_isMask) := goodIn_app (goodIn_of _ (by decide +kernel)) ggX8_ill_X8_isMask
set_option maxRecDepth 20000 in
theorem ggX8_ill_X8_fails : GoodIn wsX8_ill wsX8_fails := goodIn_r _ [13, 14, 18, 19, 20, 21, 22, 23, 24, 25, 26, 27, 28, 29, 30, 31, 32, 33, 34, 35, 36, 37, 38, 39, 40, 41, 42, 43, 44, 45, 46] (by decide +kernel) (by decide +kernel)
set_option maxRecDepth 20000 in
theorem gX8_ill_X8_fails : GoodIn wsX8_ill (wsV RX8 73 RX8 yX8_fails wsX8_fails) := goodIn_app (goodIn_of _ (by decide +kernel)) ggX8_ill_X8_fails
set_option maxRecDepth 20000 in
theorem ggX8_ill_X8_holds : GoodIn wsX8_ill wsX8_holds := goodIn_r _ [17] (by decide +kernel) (by decide +kernel)
set_option maxRecDepth 20000 in
theorem gX8_ill_X8_holds : GoodIn wsX8_ill (va_wsS RX8 76 yX8_holds wsX8_holds) := goodIn_app (goodIn_of _ (by decide +kernel)) ggX8_ill_X8_holds
theorem dX8_ill_0 : decode cX8_ill 0 = .ok (.aload_n 0, 1) := by decide +kernel
theorem dX8_ill_1 : decode cX8_ill 1 = .ok (.iload_n 1, 1) := by decide +kernel
theorem dX8_ill_2 : decode cX8_ill 2 = .ok (.invokestatic 66, 3) := by decide +kernel
theorem dX8_ill_5 : decode cX8_ill 5 = .ok (.ifCond .eq 7, 3) := by decide +kernel
theorem dX8_ill_8 : decode cX8_ill 8 = .ok (.iconst 0, 1) := by decide +kernel
theorem dX8_ill_9 : decode cX8_ill 9 = .ok (.goto 4, 3) := by decide +kernel
theorem dX8_ill_12 : decode cX8_ill 12 = .ok (.iconst 1, 1) := by decide +kernel
theorem dX8_ill_13 : decode cX8_ill 13 = .ok (.invokevirtual 73, 3) := by decide +kernel
theorem dX8_ill_16 : decode cX8_ill 16 = .ok (.ifCond .eq 5, 3) := by decide +kernel
theorem dX8_ill_19 : decode cX8_ill 19 = .ok (.iconst 0, 1) := by decide +kernel
theorem dX8_ill_20 : decode cX8_ill 20 = .ok (.ireturn, 1) := by decide +kernel
theorem dX8_ill_21 : decode cX8_ill 21 = .ok (.aload_n 0, 1) := by decide +kernel
theorem dX8_ill_22 : decode cX8_ill 22 = .ok (.dup, 1) := by decide +kernel
theorem dX8_ill_23 : decode cX8_ill 23 = .ok (.getfield 93, 3) := by decide +kernel
theorem dX8_ill_26 : decode cX8_ill 26 = .ok (.iconst 1, 1) := by decide +kernel
theorem dX8_ill_27 : decode cX8_ill 27 = .ok (.iload_n 1, 1) := by decide +kernel
theorem dX8_ill_28 : decode cX8_ill 28 = .ok (.ishl, 1) := by decide +kernel
theorem dX8_ill_29 : decode cX8_ill 29 = .ok (.ixor, 1) := by decide +kernel
theorem dX8_ill_30 : decode cX8_ill 30 = .ok (.putfield 93, 3) := by decide +kernel
theorem dX8_ill_33 : decode cX8_ill 33 = .ok (.aload_n 0, 1) := by decide +kernel
theorem dX8_ill_34 : decode cX8_ill 34 = .ok (.dup, 1) := by decide +kernel
theorem dX8_ill_35 : decode cX8_ill 35 = .ok (.getfield 96, 3) := by decide +kernel
theorem dX8_ill_38 : decode cX8_ill 38 = .ok (.aload_n 0, 1) := by decide +kernel
theorem dX8_ill_39 : decode cX8_ill 39 = .ok (.getfield 93, 3) := by decide +kernel
theorem dX8_ill_42 : decode cX8_ill 42 = .ok (.iconst (-1), 1) := by decide +kernel
theorem dX8_ill_43 : decode cX8_ill 43 = .ok (.ixor, 1) := by decide +kernel
theorem dX8_ill_44 : decode cX8_ill 44 = .ok (.iand, 1) := by decide +kernel
theorem dX8_ill_45 : decode cX8_ill 45 = .ok (.putfield 96, 3) := by decide +kernel
theorem dX8_ill_48 : decode cX8_ill 48 = .ok (.aload_n 0, 1) := by decide +kernel
theorem dX8_ill_49 : decode cX8_ill 49 = .ok (.getfield 93, 3) := by decide +kernel
theorem dX8_ill_52 : decode cX8_ill 52 = .ok (.iload_n 1, 1) := by decide +kernel
theorem dX8_ill_53 : decode cX8_ill 53 = .ok (.invokestatic 76, 3) := by decide +kernel
theorem dX8_ill_56 : decode cX8_ill 56 = .ok (.ireturn, 1) := by decide +kernel
set_option maxRecDepth 20000 in
theorem ggX8_ban_X8_isSecret : GoodIn wsX8_ban wsX8_isSecret := goodIn_r _ [5, 6, 7, 4, 8] (by decide +kernel) (by decide +kernel)
set_option maxRecDepth 20000 in
theorem gX8_ban_X8_isSecret : GoodIn wsX8_ban (va_wsS RX8 70 yX8_isSecret wsX8_isSecret) := goodIn_app (goodIn_of _ (by decide +kernel)) ggX8_ban_X8_isSecret
set_option maxRecDepth 20000 in
theorem ggX8_ban_X8_fails : GoodIn wsX8_ban wsX8_fails := goodIn_r _ [12, 13, 17, 18, 19, 20, 21, 22, 23, 24, 25, 26, 27, 28, 29, 30, 31, 32, 33, 34, 35, 36, 37, 38, 39, 40, 41, 42, 43, 44, 45] (by decide +kernel) (by decide +kernel)
set_option maxRecDepth 20000 in
theorem gX8_ban_X8_fails : GoodIn wsX8_ban (wsV RX8 73 RX8 yX8_fails wsX8_fails) := goodIn_app (goodIn_of _ (by decide +kernel)) ggX8_ban_X8_fails
set_option maxRecDepth 20000 in
theorem ggX8_ban_X8_holds : GoodIn wsX8_ban wsX8_holds := goodIn_r _ [16] (by decide +kernel) (by decide +kernel)
set_option maxRecDepth 20000 in
theorem gX8_ban_X8_holds : GoodIn wsX8_ban (va_wsS RX8 76 yX8_holds wsX8_holds) := goodIn_app (goodIn_of _ (by decide +kernel)) ggX8_ban_X8_holds
theorem dX8_ban_0 : decode cX8_ban 0 = .ok (.aload_n 0, 1) := by decide +kernel
theorem dX8_ban_1 : decode cX8_ban 1 = .ok (.iload_n 1, 1) := by decide +kernel
theorem dX8_ban_2 : decode cX8_ban 2 = .ok (.invokestatic 70, 3) := by decide +kernel
theorem dX8_ban_5 : decode cX8_ban 5 = .ok (.ifCond .eq 7, 3) := by decide +kernel
theorem dX8_ban_8 : decode cX8_ban 8 = .ok (.iconst 0, 1) := by decide +kernel
theorem dX8_ban_9 : decode cX8_ban 9 = .ok (.goto 4, 3) := by decide +kernel
theorem dX8_ban_12 : decode cX8_ban 12 = .ok (.iconst 1, 1) := by decide +kernel
theorem dX8_ban_13 : decode cX8_ban 13 = .ok (.invokevirtual 73, 3) := by decide +kernel
theorem dX8_ban_16 : decode cX8_ban 16 = .ok (.ifCond .eq 5, 3) := by decide +kernel
theorem dX8_ban_19 : decode cX8_ban 19 = .ok (.iconst 0, 1) := by decide +kernel
theorem dX8_ban_20 : decode cX8_ban 20 = .ok (.ireturn, 1) := by decide +kernel
theorem dX8_ban_21 : decode cX8_ban 21 = .ok (.aload_n 0, 1) := by decide +kernel
theorem dX8_ban_22 : decode cX8_ban 22 = .ok (.dup, 1) := by decide +kernel
theorem dX8_ban_23 : decode cX8_ban 23 = .ok (.getfield 99, 3) := by decide +kernel
theorem dX8_ban_26 : decode cX8_ban 26 = .ok (.iconst 1, 1) := by decide +kernel
theorem dX8_ban_27 : decode cX8_ban 27 = .ok (.iload_n 1, 1) := by decide +kernel
theorem dX8_ban_28 : decode cX8_ban 28 = .ok (.ishl, 1) := by decide +kernel
theorem dX8_ban_29 : decode cX8_ban 29 = .ok (.ixor, 1) := by decide +kernel
theorem dX8_ban_30 : decode cX8_ban 30 = .ok (.putfield 99, 3) := by decide +kernel
theorem dX8_ban_33 : decode cX8_ban 33 = .ok (.aload_n 0, 1) := by decide +kernel
theorem dX8_ban_34 : decode cX8_ban 34 = .ok (.getfield 99, 3) := by decide +kernel
theorem dX8_ban_37 : decode cX8_ban 37 = .ok (.iload_n 1, 1) := by decide +kernel
theorem dX8_ban_38 : decode cX8_ban 38 = .ok (.invokestatic 76, 3) := by decide +kernel
theorem dX8_ban_41 : decode cX8_ban 41 = .ok (.ireturn, 1) := by decide +kernel
set_option maxRecDepth 20000 in
theorem ggX8_travel_X8_fails : GoodIn wsX8_travel wsX8_fails := goodIn_r _ [8, 9, 10, 11, 12, 13, 14, 15, 16, 17, 18, 19, 20, 21, 22, 23, 24, 25, 26, 27, 28, 29, 30, 31, 32, 33, 34, 35, 36, 37, 38] (by decide +kernel) (by decide +kernel)
set_option maxRecDepth 20000 in
theorem gX8_travel_X8_fails : GoodIn wsX8_travel (wsV RX8 73 RX8 yX8_fails wsX8_fails) := goodIn_app (goodIn_of _ (by decide +kernel)) ggX8_travel_X8_fails
theorem dX8_travel_0 : decode cX8_travel 0 = .ok (.aload_n 0, 1) := by decide +kernel
theorem dX8_travel_1 : decode cX8_travel 1 = .ok (.aload_n 0, 1) := by decide +kernel
theorem dX8_travel_2 : decode cX8_travel 2 = .ok (.getfield 84, 3) := by decide +kernel
theorem dX8_travel_5 : decode cX8_travel 5 = .ok (.iconst 1, 1) := by decide +kernel
theorem dX8_travel_6 : decode cX8_travel 6 = .ok (.if_icmp .ne 7, 3) := by decide +kernel
theorem dX8_travel_9 : decode cX8_travel 9 = .ok (.iconst 1, 1) := by decide +kernel
theorem dX8_travel_10 : decode cX8_travel 10 = .ok (.goto 4, 3) := by decide +kernel
theorem dX8_travel_13 : decode cX8_travel 13 = .ok (.iconst 0, 1) := by decide +kernel
theorem dX8_travel_14 : decode cX8_travel 14 = .ok (.invokevirtual 73, 3) := by decide +kernel
theorem dX8_travel_17 : decode cX8_travel 17 = .ok (.ifCond .ne 29, 3) := by decide +kernel
theorem dX8_travel_20 : decode cX8_travel 20 = .ok (.aload_n 0, 1) := by decide +kernel
theorem dX8_travel_21 : decode cX8_travel 21 = .ok (.iconst 0, 1) := by decide +kernel
theorem dX8_travel_22 : decode cX8_travel 22 = .ok (.putfield 99, 3) := by decide +kernel
theorem dX8_travel_25 : decode cX8_travel 25 = .ok (.iconst 0, 1) := by decide +kernel
theorem dX8_travel_26 : decode cX8_travel 26 = .ok (.istore_n 1, 1) := by decide +kernel
theorem dX8_travel_27 : decode cX8_travel 27 = .ok (.iload_n 1, 1) := by decide +kernel
theorem dX8_travel_28 : decode cX8_travel 28 = .ok (.bipush 6, 2) := by decide +kernel
theorem dX8_travel_30 : decode cX8_travel 30 = .ok (.if_icmp .ge 16, 3) := by decide +kernel
theorem dX8_travel_33 : decode cX8_travel 33 = .ok (.aload_n 0, 1) := by decide +kernel
theorem dX8_travel_34 : decode cX8_travel 34 = .ok (.getfield 37, 3) := by decide +kernel
theorem dX8_travel_37 : decode cX8_travel 37 = .ok (.iload_n 1, 1) := by decide +kernel
theorem dX8_travel_38 : decode cX8_travel 38 = .ok (.iconst 0, 1) := by decide +kernel
theorem dX8_travel_39 : decode cX8_travel 39 = .ok (.iastore, 1) := by decide +kernel
theorem dX8_travel_40 : decode cX8_travel 40 = .ok (.iinc 1 1, 3) := by decide +kernel
theorem dX8_travel_43 : decode cX8_travel 43 = .ok (.goto (-16), 3) := by decide +kernel
theorem dX8_travel_46 : decode cX8_travel 46 = .ok (.return_, 1) := by decide +kernel
set_option maxRecDepth 20000 in
theorem ggX8_gag_X8_isProp : GoodIn wsX8_gag wsX8_isProp := goodIn_r _ [8, 9, 10, 7, 11] (by decide +kernel) (by decide +kernel)
set_option maxRecDepth 20000 in
theorem gX8_gag_X8_isProp : GoodIn wsX8_gag (va_wsS RX8 87 yX8_isProp wsX8_isProp) := goodIn_app (goodIn_of _ (by decide +kernel)) ggX8_gag_X8_isProp
set_option maxRecDepth 20000 in
theorem ggX8_gag_X8_isIn : GoodIn wsX8_gag wsX8_isIn := goodIn_r _ [11] (by decide +kernel) (by decide +kernel)
set_option maxRecDepth 20000 in
theorem gX8_gag_X8_isIn : GoodIn wsX8_gag (va_wsS RX8 62 yX8_isIn wsX8_isIn) := goodIn_app (goodIn_of _ (by decide +kernel)) ggX8_gag_X8_isIn
set_option maxRecDepth 20000 in
theorem ggX8_gag_X8_fails : GoodIn wsX8_gag wsX8_fails := goodIn_r _ [15, 16, 17, 18, 19, 20, 21, 22, 23, 24, 25, 26, 27, 28, 29, 30, 31, 32, 33, 34, 35, 36, 37, 38, 39, 40, 41, 42, 43, 44, 45] (by decide +kernel) (by decide +kernel)
set_option maxRecDepth 20000 in
theorem gX8_gag_X8_fails : GoodIn wsX8_gag (wsV RX8 73 RX8 yX8_fails wsX8_fails) := goodIn_app (goodIn_of _ (by decide +kernel)) ggX8_gag_X8_fails
theorem dX8_gag_0 : decode cX8_gag 0 = .ok (.iload_n 3, 1) := by decide +kernel
theorem dX8_gag_1 : decode cX8_gag 1 = .ok (.iconst (-1), 1) := by decide +kernel
theorem dX8_gag_2 : decode cX8_gag 2 = .ok (.if_icmp .eq 10, 3) := by decide +kernel
theorem dX8_gag_5 : decode cX8_gag 5 = .ok (.iload_n 3, 1) := by decide +kernel
theorem dX8_gag_6 : decode cX8_gag 6 = .ok (.invokestatic 87, 3) := by decide +kernel
theorem dX8_gag_9 : decode cX8_gag 9 = .ok (.ifCond .eq 7, 3) := by decide +kernel
theorem dX8_gag_12 : decode cX8_gag 12 = .ok (.iconst 1, 1) := by decide +kernel
theorem dX8_gag_13 : decode cX8_gag 13 = .ok (.goto 4, 3) := by decide +kernel
theorem dX8_gag_16 : decode cX8_gag 16 = .ok (.iconst 0, 1) := by decide +kernel
theorem dX8_gag_17 : decode cX8_gag 17 = .ok (.istore 4, 2) := by decide +kernel
theorem dX8_gag_19 : decode cX8_gag 19 = .ok (.iload_n 1, 1) := by decide +kernel
theorem dX8_gag_20 : decode cX8_gag 20 = .ok (.iconst 1, 1) := by decide +kernel
theorem dX8_gag_21 : decode cX8_gag 21 = .ok (.bipush 20, 2) := by decide +kernel
theorem dX8_gag_23 : decode cX8_gag 23 = .ok (.invokestatic 62, 3) := by decide +kernel
theorem dX8_gag_26 : decode cX8_gag 26 = .ok (.ifCond .eq 18, 3) := by decide +kernel
theorem dX8_gag_29 : decode cX8_gag 29 = .ok (.iload_n 2, 1) := by decide +kernel
theorem dX8_gag_30 : decode cX8_gag 30 = .ok (.iconst 0, 1) := by decide +kernel
theorem dX8_gag_31 : decode cX8_gag 31 = .ok (.sipush 1000, 3) := by decide +kernel
theorem dX8_gag_34 : decode cX8_gag 34 = .ok (.invokestatic 62, 3) := by decide +kernel
theorem dX8_gag_37 : decode cX8_gag 37 = .ok (.ifCond .eq 7, 3) := by decide +kernel
theorem dX8_gag_40 : decode cX8_gag 40 = .ok (.iconst 1, 1) := by decide +kernel
theorem dX8_gag_41 : decode cX8_gag 41 = .ok (.goto 4, 3) := by decide +kernel
theorem dX8_gag_44 : decode cX8_gag 44 = .ok (.iconst 0, 1) := by decide +kernel
theorem dX8_gag_45 : decode cX8_gag 45 = .ok (.istore 5, 2) := by decide +kernel
theorem dX8_gag_47 : decode cX8_gag 47 = .ok (.aload_n 0, 1) := by decide +kernel
theorem dX8_gag_48 : decode cX8_gag 48 = .ok (.iload 4, 2) := by decide +kernel
theorem dX8_gag_50 : decode cX8_gag 50 = .ok (.ifCond .ne 7, 3) := by decide +kernel
theorem dX8_gag_53 : decode cX8_gag 53 = .ok (.iconst 1, 1) := by decide +kernel
theorem dX8_gag_54 : decode cX8_gag 54 = .ok (.goto 26, 3) := by decide +kernel
theorem dX8_gag_57 : decode cX8_gag 57 = .ok (.iload 5, 2) := by decide +kernel
theorem dX8_gag_59 : decode cX8_gag 59 = .ok (.ifCond .ne 7, 3) := by decide +kernel
theorem dX8_gag_62 : decode cX8_gag 62 = .ok (.iconst 2, 1) := by decide +kernel
theorem dX8_gag_63 : decode cX8_gag 63 = .ok (.goto 17, 3) := by decide +kernel
theorem dX8_gag_66 : decode cX8_gag 66 = .ok (.aload_n 0, 1) := by decide +kernel
theorem dX8_gag_67 : decode cX8_gag 67 = .ok (.getfield 102, 3) := by decide +kernel
theorem dX8_gag_70 : decode cX8_gag 70 = .ok (.bipush 6, 2) := by decide +kernel
theorem dX8_gag_72 : decode cX8_gag 72 = .ok (.if_icmp .ne 7, 3) := by decide +kernel
theorem dX8_gag_75 : decode cX8_gag 75 = .ok (.iconst 3, 1) := by decide +kernel
theorem dX8_gag_76 : decode cX8_gag 76 = .ok (.goto 4, 3) := by decide +kernel
theorem dX8_gag_79 : decode cX8_gag 79 = .ok (.iconst 0, 1) := by decide +kernel
theorem dX8_gag_80 : decode cX8_gag 80 = .ok (.invokevirtual 73, 3) := by decide +kernel
theorem dX8_gag_83 : decode cX8_gag 83 = .ok (.ifCond .eq 5, 3) := by decide +kernel
theorem dX8_gag_86 : decode cX8_gag 86 = .ok (.iconst 0, 1) := by decide +kernel
theorem dX8_gag_87 : decode cX8_gag 87 = .ok (.ireturn, 1) := by decide +kernel
theorem dX8_gag_88 : decode cX8_gag 88 = .ok (.aload_n 0, 1) := by decide +kernel
theorem dX8_gag_89 : decode cX8_gag 89 = .ok (.getfield 28, 3) := by decide +kernel
theorem dX8_gag_92 : decode cX8_gag 92 = .ok (.aload_n 0, 1) := by decide +kernel
theorem dX8_gag_93 : decode cX8_gag 93 = .ok (.getfield 102, 3) := by decide +kernel
theorem dX8_gag_96 : decode cX8_gag 96 = .ok (.iload_n 1, 1) := by decide +kernel
theorem dX8_gag_97 : decode cX8_gag 97 = .ok (.iastore, 1) := by decide +kernel
theorem dX8_gag_98 : decode cX8_gag 98 = .ok (.aload_n 0, 1) := by decide +kernel
theorem dX8_gag_99 : decode cX8_gag 99 = .ok (.getfield 31, 3) := by decide +kernel
theorem dX8_gag_102 : decode cX8_gag 102 = .ok (.aload_n 0, 1) := by decide +kernel
theorem dX8_gag_103 : decode cX8_gag 103 = .ok (.getfield 102, 3) := by decide +kernel
theorem dX8_gag_106 : decode cX8_gag 106 = .ok (.iload_n 2, 1) := by decide +kernel
theorem dX8_gag_107 : decode cX8_gag 107 = .ok (.iastore, 1) := by decide +kernel
theorem dX8_gag_108 : decode cX8_gag 108 = .ok (.aload_n 0, 1) := by decide +kernel
theorem dX8_gag_109 : decode cX8_gag 109 = .ok (.getfield 34, 3) := by decide +kernel
theorem dX8_gag_112 : decode cX8_gag 112 = .ok (.aload_n 0, 1) := by decide +kernel
theorem dX8_gag_113 : decode cX8_gag 113 = .ok (.getfield 102, 3) := by decide +kernel
theorem dX8_gag_116 : decode cX8_gag 116 = .ok (.iload_n 3, 1) := by decide +kernel
theorem dX8_gag_117 : decode cX8_gag 117 = .ok (.iastore, 1) := by decide +kernel
theorem dX8_gag_118 : decode cX8_gag 118 = .ok (.aload_n 0, 1) := by decide +kernel
theorem dX8_gag_119 : decode cX8_gag 119 = .ok (.dup, 1) := by decide +kernel
theorem dX8_gag_120 : decode cX8_gag 120 = .ok (.getfield 102, 3) := by decide +kernel
theorem dX8_gag_123 : decode cX8_gag 123 = .ok (.iconst 1, 1) := by decide +kernel
theorem dX8_gag_124 : decode cX8_gag 124 = .ok (.iadd, 1) := by decide +kernel
theorem dX8_gag_125 : decode cX8_gag 125 = .ok (.putfield 102, 3) := by decide +kernel
theorem dX8_gag_128 : decode cX8_gag 128 = .ok (.aload_n 0, 1) := by decide +kernel
theorem dX8_gag_129 : decode cX8_gag 129 = .ok (.getfield 102, 3) := by decide +kernel
theorem dX8_gag_132 : decode cX8_gag 132 = .ok (.iconst 1, 1) := by decide +kernel
theorem dX8_gag_133 : decode cX8_gag 133 = .ok (.isub, 1) := by decide +kernel
theorem dX8_gag_134 : decode cX8_gag 134 = .ok (.ireturn, 1) := by decide +kernel
set_option maxRecDepth 20000 in
theorem ggX8_points_X8_isMask : GoodIn wsX8_points wsX8_isMask := goodIn_r _ [5, 6, 7, 4, 8] (by decide +kernel) (by decide +kernel)
set_option maxRecDepth 20000 in
theorem gX8_points_X8_isMask : GoodIn wsX8_points (va_wsS RX8 66 yX8_isMask wsX8_isMask) := goodIn_app (goodIn_of _ (by decide +kernel)) ggX8_points_X8_isMask
set_option maxRecDepth 20000 in
theorem ggX8_points_X8_isIn : GoodIn wsX8_points wsX8_isIn := goodIn_r _ [8] (by decide +kernel) (by decide +kernel)
set_option maxRecDepth 20000 in
theorem gX8_points_X8_isIn : GoodIn wsX8_points (va_wsS RX8 62 yX8_isIn wsX8_isIn) := goodIn_app (goodIn_of _ (by decide +kernel)) ggX8_points_X8_isIn
set_option maxRecDepth 20000 in
theorem ggX8_points_X8_fails : GoodIn wsX8_points wsX8_fails := goodIn_r _ [12, 13, 14, 15, 16, 17, 18, 19, 20, 21, 22, 23, 24, 25, 26, 27, 28, 29, 30, 31, 32, 33, 34, 35, 36, 37, 38, 39, 40, 41, 42] (by decide +kernel) (by decide +kernel)
set_option maxRecDepth 20000 in
theorem gX8_points_X8_fails : GoodIn wsX8_points (wsV RX8 73 RX8 yX8_fails wsX8_fails) := goodIn_app (goodIn_of _ (by decide +kernel)) ggX8_points_X8_fails
theorem dX8_points_0 : decode cX8_points 0 = .ok (.aload_n 0, 1) := by decide +kernel
theorem dX8_points_1 : decode cX8_points 1 = .ok (.iload_n 1, 1) := by decide +kernel
theorem dX8_points_2 : decode cX8_points 2 = .ok (.invokestatic 66, 3) := by decide +kernel
theorem dX8_points_5 : decode cX8_points 5 = .ok (.ifCond .ne 7, 3) := by decide +kernel
theorem dX8_points_8 : decode cX8_points 8 = .ok (.iconst 1, 1) := by decide +kernel
theorem dX8_points_9 : decode cX8_points 9 = .ok (.goto 18, 3) := by decide +kernel
theorem dX8_points_12 : decode cX8_points 12 = .ok (.iload_n 2, 1) := by decide +kernel
theorem dX8_points_13 : decode cX8_points 13 = .ok (.iconst 0, 1) := by decide +kernel
theorem dX8_points_14 : decode cX8_points 14 = .ok (.bipush 100, 2) := by decide +kernel
theorem dX8_points_16 : decode cX8_points 16 = .ok (.invokestatic 62, 3) := by decide +kernel
theorem dX8_points_19 : decode cX8_points 19 = .ok (.ifCond .eq 7, 3) := by decide +kernel
theorem dX8_points_22 : decode cX8_points 22 = .ok (.iconst 0, 1) := by decide +kernel
theorem dX8_points_23 : decode cX8_points 23 = .ok (.goto 4, 3) := by decide +kernel
theorem dX8_points_26 : decode cX8_points 26 = .ok (.iconst 2, 1) := by decide +kernel
theorem dX8_points_27 : decode cX8_points 27 = .ok (.invokevirtual 73, 3) := by decide +kernel
theorem dX8_points_30 : decode cX8_points 30 = .ok (.ifCond .eq 5, 3) := by decide +kernel
theorem dX8_points_33 : decode cX8_points 33 = .ok (.iconst 0, 1) := by decide +kernel
theorem dX8_points_34 : decode cX8_points 34 = .ok (.ireturn, 1) := by decide +kernel
theorem dX8_points_35 : decode cX8_points 35 = .ok (.aload_n 0, 1) := by decide +kernel
theorem dX8_points_36 : decode cX8_points 36 = .ok (.getfield 40, 3) := by decide +kernel
theorem dX8_points_39 : decode cX8_points 39 = .ok (.iload_n 1, 1) := by decide +kernel
theorem dX8_points_40 : decode cX8_points 40 = .ok (.iaload, 1) := by decide +kernel
theorem dX8_points_41 : decode cX8_points 41 = .ok (.istore_n 3, 1) := by decide +kernel
theorem dX8_points_42 : decode cX8_points 42 = .ok (.aload_n 0, 1) := by decide +kernel
theorem dX8_points_43 : decode cX8_points 43 = .ok (.getfield 40, 3) := by decide +kernel
theorem dX8_points_46 : decode cX8_points 46 = .ok (.iload_n 1, 1) := by decide +kernel
theorem dX8_points_47 : decode cX8_points 47 = .ok (.iload_n 2, 1) := by decide +kernel
theorem dX8_points_48 : decode cX8_points 48 = .ok (.iastore, 1) := by decide +kernel
theorem dX8_points_49 : decode cX8_points 49 = .ok (.iload_n 3, 1) := by decide +kernel
theorem dX8_points_50 : decode cX8_points 50 = .ok (.ireturn, 1) := by decide +kernel
theorem dX8_isToldBehind_0 : decode cX8_isToldBehind 0 = .ok (.iconst 0, 1) := by decide +kernel
theorem dX8_isToldBehind_1 : decode cX8_isToldBehind 1 = .ok (.istore 4, 2) := by decide +kernel
theorem dX8_isToldBehind_3 : decode cX8_isToldBehind 3 = .ok (.iload_n 1, 1) := by decide +kernel
theorem dX8_isToldBehind_4 : decode cX8_isToldBehind 4 = .ok (.iconst 1, 1) := by decide +kernel
theorem dX8_isToldBehind_5 : decode cX8_isToldBehind 5 = .ok (.iadd, 1) := by decide +kernel
theorem dX8_isToldBehind_6 : decode cX8_isToldBehind 6 = .ok (.istore 5, 2) := by decide +kernel
theorem dX8_isToldBehind_8 : decode cX8_isToldBehind 8 = .ok (.iload 5, 2) := by decide +kernel
theorem dX8_isToldBehind_10 : decode cX8_isToldBehind 10 = .ok (.aload_n 0, 1) := by decide +kernel
theorem dX8_isToldBehind_11 : decode cX8_isToldBehind 11 = .ok (.getfield 90, 3) := by decide +kernel
theorem dX8_isToldBehind_14 : decode cX8_isToldBehind 14 = .ok (.if_icmp .ge 53, 3) := by decide +kernel
theorem dX8_isToldBehind_17 : decode cX8_isToldBehind 17 = .ok (.iload 4, 2) := by decide +kernel
theorem dX8_isToldBehind_19 : decode cX8_isToldBehind 19 = .ok (.ifCond .ne 35, 3) := by decide +kernel
theorem dX8_isToldBehind_22 : decode cX8_isToldBehind 22 = .ok (.aload_n 0, 1) := by decide +kernel
theorem dX8_isToldBehind_23 : decode cX8_isToldBehind 23 = .ok (.getfield 16, 3) := by decide +kernel
theorem dX8_isToldBehind_26 : decode cX8_isToldBehind 26 = .ok (.iload 5, 2) := by decide +kernel
theorem dX8_isToldBehind_28 : decode cX8_isToldBehind 28 = .ok (.iaload, 1) := by decide +kernel
theorem dX8_isToldBehind_29 : decode cX8_isToldBehind 29 = .ok (.ifCond .ne 29, 3) := by decide +kernel
theorem dX8_isToldBehind_32 : decode cX8_isToldBehind 32 = .ok (.aload_n 0, 1) := by decide +kernel
theorem dX8_isToldBehind_33 : decode cX8_isToldBehind 33 = .ok (.getfield 22, 3) := by decide +kernel
theorem dX8_isToldBehind_36 : decode cX8_isToldBehind 36 = .ok (.iload 5, 2) := by decide +kernel
theorem dX8_isToldBehind_38 : decode cX8_isToldBehind 38 = .ok (.iaload, 1) := by decide +kernel
theorem dX8_isToldBehind_39 : decode cX8_isToldBehind 39 = .ok (.iload_n 2, 1) := by decide +kernel
theorem dX8_isToldBehind_40 : decode cX8_isToldBehind 40 = .ok (.if_icmp .ne 18, 3) := by decide +kernel
theorem dX8_isToldBehind_43 : decode cX8_isToldBehind 43 = .ok (.aload_n 0, 1) := by decide +kernel
theorem dX8_isToldBehind_44 : decode cX8_isToldBehind 44 = .ok (.getfield 25, 3) := by decide +kernel
theorem dX8_isToldBehind_47 : decode cX8_isToldBehind 47 = .ok (.iload 5, 2) := by decide +kernel
theorem dX8_isToldBehind_49 : decode cX8_isToldBehind 49 = .ok (.iaload, 1) := by decide +kernel
theorem dX8_isToldBehind_50 : decode cX8_isToldBehind 50 = .ok (.iload_n 3, 1) := by decide +kernel
theorem dX8_isToldBehind_51 : decode cX8_isToldBehind 51 = .ok (.if_icmp .ne 7, 3) := by decide +kernel
theorem dX8_isToldBehind_54 : decode cX8_isToldBehind 54 = .ok (.iconst 1, 1) := by decide +kernel
theorem dX8_isToldBehind_55 : decode cX8_isToldBehind 55 = .ok (.goto 4, 3) := by decide +kernel
theorem dX8_isToldBehind_58 : decode cX8_isToldBehind 58 = .ok (.iconst 0, 1) := by decide +kernel
theorem dX8_isToldBehind_59 : decode cX8_isToldBehind 59 = .ok (.istore 4, 2) := by decide +kernel
theorem dX8_isToldBehind_61 : decode cX8_isToldBehind 61 = .ok (.iinc 5 1, 3) := by decide +kernel
theorem dX8_isToldBehind_64 : decode cX8_isToldBehind 64 = .ok (.goto (-56), 3) := by decide +kernel
theorem dX8_isToldBehind_67 : decode cX8_isToldBehind 67 = .ok (.iload 4, 2) := by decide +kernel
theorem dX8_isToldBehind_69 : decode cX8_isToldBehind 69 = .ok (.ireturn, 1) := by decide +kernel
set_option maxRecDepth 20000 in
theorem ggX8_canTell_X8_holds : GoodIn wsX8_canTell wsX8_holds := goodIn_r _ [10] (by decide +kernel) (by decide +kernel)
set_option maxRecDepth 20000 in
theorem gX8_canTell_X8_holds : GoodIn wsX8_canTell (va_wsS RX8 76 yX8_holds wsX8_holds) := goodIn_app (goodIn_of _ (by decide +kernel)) ggX8_canTell_X8_holds
set_option maxRecDepth 20000 in
theorem ggX8_canTell_X8_isToldBehind : GoodIn wsX8_canTell wsX8_isToldBehind := goodIn_r _ [14, 15, 16, 4, 1, 17, 18, 19, 20, 21, 22, 23, 24, 25, 26, 27, 28, 29, 30, 31, 32, 33, 34, 35, 36, 37, 38, 39, 40, 41, 42, 43, 44, 45] (by decide +kernel) (by decide +kernel)
set_option maxRecDepth 20000 in
theorem gX8_canTell_X8_isToldBehind : GoodIn wsX8_canTell (wsV RX8 105 RX8 yX8_isToldBehind wsX8_isToldBehind) := goodIn_app (goodIn_of _ (by decide +kernel)) ggX8_canTell_X8_isToldBehind
theorem dX8_canTell_0 : decode cX8_canTell 0 = .ok (.aload_n 0, 1) := by decide +kernel
theorem dX8_canTell_1 : decode cX8_canTell 1 = .ok (.getfield 25, 3) := by decide +kernel
theorem dX8_canTell_4 : decode cX8_canTell 4 = .ok (.iload_n 1, 1) := by decide +kernel
theorem dX8_canTell_5 : decode cX8_canTell 5 = .ok (.iaload, 1) := by decide +kernel
theorem dX8_canTell_6 : decode cX8_canTell 6 = .ok (.istore_n 2, 1) := by decide +kernel
theorem dX8_canTell_7 : decode cX8_canTell 7 = .ok (.aload_n 0, 1) := by decide +kernel
theorem dX8_canTell_8 : decode cX8_canTell 8 = .ok (.getfield 99, 3) := by decide +kernel
theorem dX8_canTell_11 : decode cX8_canTell 11 = .ok (.iload_n 2, 1) := by decide +kernel
theorem dX8_canTell_12 : decode cX8_canTell 12 = .ok (.invokestatic 76, 3) := by decide +kernel
theorem dX8_canTell_15 : decode cX8_canTell 15 = .ok (.ifCond .ne 25, 3) := by decide +kernel
theorem dX8_canTell_18 : decode cX8_canTell 18 = .ok (.aload_n 0, 1) := by decide +kernel
theorem dX8_canTell_19 : decode cX8_canTell 19 = .ok (.getfield 53, 3) := by decide +kernel
theorem dX8_canTell_22 : decode cX8_canTell 22 = .ok (.iload_n 2, 1) := by decide +kernel
theorem dX8_canTell_23 : decode cX8_canTell 23 = .ok (.iaload, 1) := by decide +kernel
theorem dX8_canTell_24 : decode cX8_canTell 24 = .ok (.aload_n 0, 1) := by decide +kernel
theorem dX8_canTell_25 : decode cX8_canTell 25 = .ok (.getfield 22, 3) := by decide +kernel
theorem dX8_canTell_28 : decode cX8_canTell 28 = .ok (.iload_n 1, 1) := by decide +kernel
theorem dX8_canTell_29 : decode cX8_canTell 29 = .ok (.iaload, 1) := by decide +kernel
theorem dX8_canTell_30 : decode cX8_canTell 30 = .ok (.invokestatic 76, 3) := by decide +kernel
theorem dX8_canTell_33 : decode cX8_canTell 33 = .ok (.ifCond .ne 7, 3) := by decide +kernel
theorem dX8_canTell_36 : decode cX8_canTell 36 = .ok (.iconst 1, 1) := by decide +kernel
theorem dX8_canTell_37 : decode cX8_canTell 37 = .ok (.goto 4, 3) := by decide +kernel
theorem dX8_canTell_40 : decode cX8_canTell 40 = .ok (.iconst 0, 1) := by decide +kernel
theorem dX8_canTell_41 : decode cX8_canTell 41 = .ok (.istore_n 3, 1) := by decide +kernel
theorem dX8_canTell_42 : decode cX8_canTell 42 = .ok (.aload_n 0, 1) := by decide +kernel
theorem dX8_canTell_43 : decode cX8_canTell 43 = .ok (.getfield 53, 3) := by decide +kernel
theorem dX8_canTell_46 : decode cX8_canTell 46 = .ok (.iload_n 2, 1) := by decide +kernel
theorem dX8_canTell_47 : decode cX8_canTell 47 = .ok (.iaload, 1) := by decide +kernel
theorem dX8_canTell_48 : decode cX8_canTell 48 = .ok (.aload_n 0, 1) := by decide +kernel
theorem dX8_canTell_49 : decode cX8_canTell 49 = .ok (.getfield 93, 3) := by decide +kernel
theorem dX8_canTell_52 : decode cX8_canTell 52 = .ok (.iconst (-1), 1) := by decide +kernel
theorem dX8_canTell_53 : decode cX8_canTell 53 = .ok (.ixor, 1) := by decide +kernel
theorem dX8_canTell_54 : decode cX8_canTell 54 = .ok (.iand, 1) := by decide +kernel
theorem dX8_canTell_55 : decode cX8_canTell 55 = .ok (.ifCond .eq 22, 3) := by decide +kernel
theorem dX8_canTell_58 : decode cX8_canTell 58 = .ok (.aload_n 0, 1) := by decide +kernel
theorem dX8_canTell_59 : decode cX8_canTell 59 = .ok (.iload_n 1, 1) := by decide +kernel
theorem dX8_canTell_60 : decode cX8_canTell 60 = .ok (.aload_n 0, 1) := by decide +kernel
theorem dX8_canTell_61 : decode cX8_canTell 61 = .ok (.getfield 19, 3) := by decide +kernel
theorem dX8_canTell_64 : decode cX8_canTell 64 = .ok (.iload_n 1, 1) := by decide +kernel
theorem dX8_canTell_65 : decode cX8_canTell 65 = .ok (.iaload, 1) := by decide +kernel
theorem dX8_canTell_66 : decode cX8_canTell 66 = .ok (.iload_n 2, 1) := by decide +kernel
theorem dX8_canTell_67 : decode cX8_canTell 67 = .ok (.invokevirtual 105, 3) := by decide +kernel
theorem dX8_canTell_70 : decode cX8_canTell 70 = .ok (.ifCond .ne 7, 3) := by decide +kernel
theorem dX8_canTell_73 : decode cX8_canTell 73 = .ok (.iconst 1, 1) := by decide +kernel
theorem dX8_canTell_74 : decode cX8_canTell 74 = .ok (.goto 4, 3) := by decide +kernel
theorem dX8_canTell_77 : decode cX8_canTell 77 = .ok (.iconst 0, 1) := by decide +kernel
theorem dX8_canTell_78 : decode cX8_canTell 78 = .ok (.istore 4, 2) := by decide +kernel
theorem dX8_canTell_80 : decode cX8_canTell 80 = .ok (.iload_n 3, 1) := by decide +kernel
theorem dX8_canTell_81 : decode cX8_canTell 81 = .ok (.ifCond .eq 30, 3) := by decide +kernel
theorem dX8_canTell_84 : decode cX8_canTell 84 = .ok (.aload_n 0, 1) := by decide +kernel
theorem dX8_canTell_85 : decode cX8_canTell 85 = .ok (.getfield 53, 3) := by decide +kernel
theorem dX8_canTell_88 : decode cX8_canTell 88 = .ok (.iload_n 2, 1) := by decide +kernel
theorem dX8_canTell_89 : decode cX8_canTell 89 = .ok (.iaload, 1) := by decide +kernel
theorem dX8_canTell_90 : decode cX8_canTell 90 = .ok (.aload_n 0, 1) := by decide +kernel
theorem dX8_canTell_91 : decode cX8_canTell 91 = .ok (.getfield 19, 3) := by decide +kernel
theorem dX8_canTell_94 : decode cX8_canTell 94 = .ok (.iload_n 1, 1) := by decide +kernel
theorem dX8_canTell_95 : decode cX8_canTell 95 = .ok (.iaload, 1) := by decide +kernel
theorem dX8_canTell_96 : decode cX8_canTell 96 = .ok (.invokestatic 76, 3) := by decide +kernel
theorem dX8_canTell_99 : decode cX8_canTell 99 = .ok (.ifCond .ne 8, 3) := by decide +kernel
theorem dX8_canTell_102 : decode cX8_canTell 102 = .ok (.iload 4, 2) := by decide +kernel
theorem dX8_canTell_104 : decode cX8_canTell 104 = .ok (.ifCond .eq 7, 3) := by decide +kernel
theorem dX8_canTell_107 : decode cX8_canTell 107 = .ok (.iconst 1, 1) := by decide +kernel
theorem dX8_canTell_108 : decode cX8_canTell 108 = .ok (.goto 4, 3) := by decide +kernel
theorem dX8_canTell_111 : decode cX8_canTell 111 = .ok (.iconst 0, 1) := by decide +kernel
theorem dX8_canTell_112 : decode cX8_canTell 112 = .ok (.istore_n 3, 1) := by decide +kernel
theorem dX8_canTell_113 : decode cX8_canTell 113 = .ok (.aload_n 0, 1) := by decide +kernel
theorem dX8_canTell_114 : decode cX8_canTell 114 = .ok (.getfield 53, 3) := by decide +kernel
theorem dX8_canTell_117 : decode cX8_canTell 117 = .ok (.iload_n 2, 1) := by decide +kernel
theorem dX8_canTell_118 : decode cX8_canTell 118 = .ok (.dup2, 1) := by decide +kernel
theorem dX8_canTell_119 : decode cX8_canTell 119 = .ok (.iaload, 1) := by decide +kernel
theorem dX8_canTell_120 : decode cX8_canTell 120 = .ok (.iconst 1, 1) := by decide +kernel
theorem dX8_canTell_121 : decode cX8_canTell 121 = .ok (.aload_n 0, 1) := by decide +kernel
theorem dX8_canTell_122 : decode cX8_canTell 122 = .ok (.getfield 19, 3) := by decide +kernel
theorem dX8_canTell_125 : decode cX8_canTell 125 = .ok (.iload_n 1, 1) := by decide +kernel
theorem dX8_canTell_126 : decode cX8_canTell 126 = .ok (.iaload, 1) := by decide +kernel
theorem dX8_canTell_127 : decode cX8_canTell 127 = .ok (.ishl, 1) := by decide +kernel
theorem dX8_canTell_128 : decode cX8_canTell 128 = .ok (.iconst 1, 1) := by decide +kernel
theorem dX8_canTell_129 : decode cX8_canTell 129 = .ok (.aload_n 0, 1) := by decide +kernel
theorem dX8_canTell_130 : decode cX8_canTell 130 = .ok (.getfield 22, 3) := by decide +kernel
theorem dX8_canTell_133 : decode cX8_canTell 133 = .ok (.iload_n 1, 1) := by decide +kernel
theorem dX8_canTell_134 : decode cX8_canTell 134 = .ok (.iaload, 1) := by decide +kernel
theorem dX8_canTell_135 : decode cX8_canTell 135 = .ok (.ishl, 1) := by decide +kernel
theorem dX8_canTell_136 : decode cX8_canTell 136 = .ok (.ior, 1) := by decide +kernel
theorem dX8_canTell_137 : decode cX8_canTell 137 = .ok (.ior, 1) := by decide +kernel
theorem dX8_canTell_138 : decode cX8_canTell 138 = .ok (.iastore, 1) := by decide +kernel
theorem dX8_canTell_139 : decode cX8_canTell 139 = .ok (.iload_n 3, 1) := by decide +kernel
theorem dX8_canTell_140 : decode cX8_canTell 140 = .ok (.ireturn, 1) := by decide +kernel
set_option maxRecDepth 20000 in
theorem ggX8_canGive_X8_holds : GoodIn wsX8_canGive wsX8_holds := goodIn_r _ [8] (by decide +kernel) (by decide +kernel)
set_option maxRecDepth 20000 in
theorem gX8_canGive_X8_holds : GoodIn wsX8_canGive (va_wsS RX8 76 yX8_holds wsX8_holds) := goodIn_app (goodIn_of _ (by decide +kernel)) ggX8_canGive_X8_holds
theorem dX8_canGive_0 : decode cX8_canGive 0 = .ok (.aload_n 0, 1) := by decide +kernel
theorem dX8_canGive_1 : decode cX8_canGive 1 = .ok (.getfield 25, 3) := by decide +kernel
theorem dX8_canGive_4 : decode cX8_canGive 4 = .ok (.iload_n 1, 1) := by decide +kernel
theorem dX8_canGive_5 : decode cX8_canGive 5 = .ok (.iaload, 1) := by decide +kernel
theorem dX8_canGive_6 : decode cX8_canGive 6 = .ok (.istore_n 2, 1) := by decide +kernel
theorem dX8_canGive_7 : decode cX8_canGive 7 = .ok (.aload_n 0, 1) := by decide +kernel
theorem dX8_canGive_8 : decode cX8_canGive 8 = .ok (.getfield 56, 3) := by decide +kernel
theorem dX8_canGive_11 : decode cX8_canGive 11 = .ok (.iload_n 2, 1) := by decide +kernel
theorem dX8_canGive_12 : decode cX8_canGive 12 = .ok (.iaload, 1) := by decide +kernel
theorem dX8_canGive_13 : decode cX8_canGive 13 = .ok (.iconst (-1), 1) := by decide +kernel
theorem dX8_canGive_14 : decode cX8_canGive 14 = .ok (.if_icmp .eq 19, 3) := by decide +kernel
theorem dX8_canGive_17 : decode cX8_canGive 17 = .ok (.aload_n 0, 1) := by decide +kernel
theorem dX8_canGive_18 : decode cX8_canGive 18 = .ok (.getfield 93, 3) := by decide +kernel
theorem dX8_canGive_21 : decode cX8_canGive 21 = .ok (.aload_n 0, 1) := by decide +kernel
theorem dX8_canGive_22 : decode cX8_canGive 22 = .ok (.getfield 56, 3) := by decide +kernel
theorem dX8_canGive_25 : decode cX8_canGive 25 = .ok (.iload_n 2, 1) := by decide +kernel
theorem dX8_canGive_26 : decode cX8_canGive 26 = .ok (.iaload, 1) := by decide +kernel
theorem dX8_canGive_27 : decode cX8_canGive 27 = .ok (.invokestatic 76, 3) := by decide +kernel
theorem dX8_canGive_30 : decode cX8_canGive 30 = .ok (.ifCond .ne 7, 3) := by decide +kernel
theorem dX8_canGive_33 : decode cX8_canGive 33 = .ok (.iconst 1, 1) := by decide +kernel
theorem dX8_canGive_34 : decode cX8_canGive 34 = .ok (.goto 4, 3) := by decide +kernel
theorem dX8_canGive_37 : decode cX8_canGive 37 = .ok (.iconst 0, 1) := by decide +kernel
theorem dX8_canGive_38 : decode cX8_canGive 38 = .ok (.istore_n 3, 1) := by decide +kernel
theorem dX8_canGive_39 : decode cX8_canGive 39 = .ok (.aload_n 0, 1) := by decide +kernel
theorem dX8_canGive_40 : decode cX8_canGive 40 = .ok (.getfield 56, 3) := by decide +kernel
theorem dX8_canGive_43 : decode cX8_canGive 43 = .ok (.iload_n 2, 1) := by decide +kernel
theorem dX8_canGive_44 : decode cX8_canGive 44 = .ok (.aload_n 0, 1) := by decide +kernel
theorem dX8_canGive_45 : decode cX8_canGive 45 = .ok (.getfield 22, 3) := by decide +kernel
theorem dX8_canGive_48 : decode cX8_canGive 48 = .ok (.iload_n 1, 1) := by decide +kernel
theorem dX8_canGive_49 : decode cX8_canGive 49 = .ok (.iaload, 1) := by decide +kernel
theorem dX8_canGive_50 : decode cX8_canGive 50 = .ok (.iastore, 1) := by decide +kernel
theorem dX8_canGive_51 : decode cX8_canGive 51 = .ok (.iload_n 3, 1) := by decide +kernel
theorem dX8_canGive_52 : decode cX8_canGive 52 = .ok (.ireturn, 1) := by decide +kernel
set_option maxRecDepth 20000 in
theorem ggX8_canClose_X8_holds : GoodIn wsX8_canClose wsX8_holds := goodIn_r _ [13] (by decide +kernel) (by decide +kernel)
set_option maxRecDepth 20000 in
theorem gX8_canClose_X8_holds : GoodIn wsX8_canClose (va_wsS RX8 76 yX8_holds wsX8_holds) := goodIn_app (goodIn_of _ (by decide +kernel)) ggX8_canClose_X8_holds
set_option maxRecDepth 20000 in
theorem ggX8_canClose_X8_canTell : GoodIn wsX8_canClose wsX8_canTell := goodIn_r _ [17, 18, 19, 1, 9, 7, 8, 10, 11, 12, 13, 20, 21, 22, 23, 5, 6, 28, 29, 30, 31, 32, 33, 34, 35, 36, 37, 38, 39, 40, 41, 42, 43, 44, 45, 46, 47, 48, 49, 50, 51, 52, 53, 54, 55, 56] (by decide +kernel) (by decide +kernel)
set_option maxRecDepth 20000 in
theorem gX8_canClose_X8_canTell : GoodIn wsX8_canClose (wsV RX8 108 RX8 yX8_canTell wsX8_canTell) := goodIn_app (goodIn_of _ (by decide +kernel)) ggX8_canClose_X8_canTell
set_option maxRecDepth 20000 in
theorem ggX8_canClose_X8_canGive : GoodIn wsX8_canClose wsX8_canGive := goodIn_r _ [27, 18, 3, 7, 9, 10, 11, 12, 13, 28, 29, 30, 31, 32, 33, 34, 35, 36, 37, 38, 39, 40, 41, 42, 43, 44, 45, 46, 47, 48, 49, 50, 51, 52, 53, 54, 55, 56] (by decide +kernel) (by decide +kernel)
set_option maxRecDepth 20000 in
theorem gX8_canClose_X8_canGive : GoodIn wsX8_canClose (wsV RX8 111 RX8 yX8_canGive wsX8_canGive) := goodIn_app (goodIn_of _ (by decide +kernel)) ggX8_canClose_X8_canGive
theorem dX8_canClose_0 : decode cX8_canClose 0 = .ok (.iconst 0, 1) := by decide +kernel
theorem dX8_canClose_1 : decode cX8_canClose 1 = .ok (.istore_n 2, 1) := by decide +kernel
theorem dX8_canClose_2 : decode cX8_canClose 2 = .ok (.iload_n 2, 1) := by decide +kernel
theorem dX8_canClose_3 : decode cX8_canClose 3 = .ok (.iconst 4, 1) := by decide +kernel
theorem dX8_canClose_4 : decode cX8_canClose 4 = .ok (.if_icmp .ge 33, 3) := by decide +kernel
theorem dX8_canClose_7 : decode cX8_canClose 7 = .ok (.aload_n 0, 1) := by decide +kernel
theorem dX8_canClose_8 : decode cX8_canClose 8 = .ok (.getfield 53, 3) := by decide +kernel
theorem dX8_canClose_11 : decode cX8_canClose 11 = .ok (.iload_n 2, 1) := by decide +kernel
theorem dX8_canClose_12 : decode cX8_canClose 12 = .ok (.aload_n 0, 1) := by decide +kernel
theorem dX8_canClose_13 : decode cX8_canClose 13 = .ok (.getfield 47, 3) := by decide +kernel
theorem dX8_canClose_16 : decode cX8_canClose 16 = .ok (.iload_n 2, 1) := by decide +kernel
theorem dX8_canClose_17 : decode cX8_canClose 17 = .ok (.iaload, 1) := by decide +kernel
theorem dX8_canClose_18 : decode cX8_canClose 18 = .ok (.iastore, 1) := by decide +kernel
theorem dX8_canClose_19 : decode cX8_canClose 19 = .ok (.aload_n 0, 1) := by decide +kernel
theorem dX8_canClose_20 : decode cX8_canClose 20 = .ok (.getfield 56, 3) := by decide +kernel
theorem dX8_canClose_23 : decode cX8_canClose 23 = .ok (.iload_n 2, 1) := by decide +kernel
theorem dX8_canClose_24 : decode cX8_canClose 24 = .ok (.aload_n 0, 1) := by decide +kernel
theorem dX8_canClose_25 : decode cX8_canClose 25 = .ok (.getfield 50, 3) := by decide +kernel
theorem dX8_canClose_28 : decode cX8_canClose 28 = .ok (.iload_n 2, 1) := by decide +kernel
theorem dX8_canClose_29 : decode cX8_canClose 29 = .ok (.iaload, 1) := by decide +kernel
theorem dX8_canClose_30 : decode cX8_canClose 30 = .ok (.iastore, 1) := by decide +kernel
theorem dX8_canClose_31 : decode cX8_canClose 31 = .ok (.iinc 2 1, 3) := by decide +kernel
theorem dX8_canClose_34 : decode cX8_canClose 34 = .ok (.goto (-32), 3) := by decide +kernel
theorem dX8_canClose_37 : decode cX8_canClose 37 = .ok (.iconst 1, 1) := by decide +kernel
theorem dX8_canClose_38 : decode cX8_canClose 38 = .ok (.istore_n 2, 1) := by decide +kernel
theorem dX8_canClose_39 : decode cX8_canClose 39 = .ok (.iload_n 1, 1) := by decide +kernel
theorem dX8_canClose_40 : decode cX8_canClose 40 = .ok (.istore_n 3, 1) := by decide +kernel
theorem dX8_canClose_41 : decode cX8_canClose 41 = .ok (.iload_n 3, 1) := by decide +kernel
theorem dX8_canClose_42 : decode cX8_canClose 42 = .ok (.aload_n 0, 1) := by decide +kernel
theorem dX8_canClose_43 : decode cX8_canClose 43 = .ok (.getfield 90, 3) := by decide +kernel
theorem dX8_canClose_46 : decode cX8_canClose 46 = .ok (.if_icmp .ge 128, 3) := by decide +kernel
theorem dX8_canClose_49 : decode cX8_canClose 49 = .ok (.aload_n 0, 1) := by decide +kernel
theorem dX8_canClose_50 : decode cX8_canClose 50 = .ok (.getfield 16, 3) := by decide +kernel
theorem dX8_canClose_53 : decode cX8_canClose 53 = .ok (.iload_n 3, 1) := by decide +kernel
theorem dX8_canClose_54 : decode cX8_canClose 54 = .ok (.iaload, 1) := by decide +kernel
theorem dX8_canClose_55 : decode cX8_canClose 55 = .ok (.iconst 2, 1) := by decide +kernel
theorem dX8_canClose_56 : decode cX8_canClose 56 = .ok (.if_icmp .eq 17, 3) := by decide +kernel
theorem dX8_canClose_59 : decode cX8_canClose 59 = .ok (.aload_n 0, 1) := by decide +kernel
theorem dX8_canClose_60 : decode cX8_canClose 60 = .ok (.getfield 16, 3) := by decide +kernel
theorem dX8_canClose_63 : decode cX8_canClose 63 = .ok (.iload_n 3, 1) := by decide +kernel
theorem dX8_canClose_64 : decode cX8_canClose 64 = .ok (.iaload, 1) := by decide +kernel
theorem dX8_canClose_65 : decode cX8_canClose 65 = .ok (.iconst 3, 1) := by decide +kernel
theorem dX8_canClose_66 : decode cX8_canClose 66 = .ok (.if_icmp .eq 7, 3) := by decide +kernel
theorem dX8_canClose_69 : decode cX8_canClose 69 = .ok (.iconst 1, 1) := by decide +kernel
theorem dX8_canClose_70 : decode cX8_canClose 70 = .ok (.goto 4, 3) := by decide +kernel
theorem dX8_canClose_73 : decode cX8_canClose 73 = .ok (.iconst 0, 1) := by decide +kernel
theorem dX8_canClose_74 : decode cX8_canClose 74 = .ok (.istore 4, 2) := by decide +kernel
theorem dX8_canClose_76 : decode cX8_canClose 76 = .ok (.iload_n 2, 1) := by decide +kernel
theorem dX8_canClose_77 : decode cX8_canClose 77 = .ok (.ifCond .eq 44, 3) := by decide +kernel
theorem dX8_canClose_80 : decode cX8_canClose 80 = .ok (.aload_n 0, 1) := by decide +kernel
theorem dX8_canClose_81 : decode cX8_canClose 81 = .ok (.getfield 93, 3) := by decide +kernel
theorem dX8_canClose_84 : decode cX8_canClose 84 = .ok (.aload_n 0, 1) := by decide +kernel
theorem dX8_canClose_85 : decode cX8_canClose 85 = .ok (.getfield 19, 3) := by decide +kernel
theorem dX8_canClose_88 : decode cX8_canClose 88 = .ok (.iload_n 3, 1) := by decide +kernel
theorem dX8_canClose_89 : decode cX8_canClose 89 = .ok (.iaload, 1) := by decide +kernel
theorem dX8_canClose_90 : decode cX8_canClose 90 = .ok (.invokestatic 76, 3) := by decide +kernel
theorem dX8_canClose_93 : decode cX8_canClose 93 = .ok (.ifCond .ne 28, 3) := by decide +kernel
theorem dX8_canClose_96 : decode cX8_canClose 96 = .ok (.iload 4, 2) := by decide +kernel
theorem dX8_canClose_98 : decode cX8_canClose 98 = .ok (.ifCond .eq 19, 3) := by decide +kernel
theorem dX8_canClose_101 : decode cX8_canClose 101 = .ok (.aload_n 0, 1) := by decide +kernel
theorem dX8_canClose_102 : decode cX8_canClose 102 = .ok (.getfield 93, 3) := by decide +kernel
theorem dX8_canClose_105 : decode cX8_canClose 105 = .ok (.aload_n 0, 1) := by decide +kernel
theorem dX8_canClose_106 : decode cX8_canClose 106 = .ok (.getfield 22, 3) := by decide +kernel
theorem dX8_canClose_109 : decode cX8_canClose 109 = .ok (.iload_n 3, 1) := by decide +kernel
theorem dX8_canClose_110 : decode cX8_canClose 110 = .ok (.iaload, 1) := by decide +kernel
theorem dX8_canClose_111 : decode cX8_canClose 111 = .ok (.invokestatic 76, 3) := by decide +kernel
theorem dX8_canClose_114 : decode cX8_canClose 114 = .ok (.ifCond .ne 7, 3) := by decide +kernel
theorem dX8_canClose_117 : decode cX8_canClose 117 = .ok (.iconst 1, 1) := by decide +kernel
theorem dX8_canClose_118 : decode cX8_canClose 118 = .ok (.goto 4, 3) := by decide +kernel
theorem dX8_canClose_121 : decode cX8_canClose 121 = .ok (.iconst 0, 1) := by decide +kernel
theorem dX8_canClose_122 : decode cX8_canClose 122 = .ok (.istore_n 2, 1) := by decide +kernel
theorem dX8_canClose_123 : decode cX8_canClose 123 = .ok (.iload_n 2, 1) := by decide +kernel
theorem dX8_canClose_124 : decode cX8_canClose 124 = .ok (.ifCond .eq 42, 3) := by decide +kernel
theorem dX8_canClose_127 : decode cX8_canClose 127 = .ok (.aload_n 0, 1) := by decide +kernel
theorem dX8_canClose_128 : decode cX8_canClose 128 = .ok (.getfield 16, 3) := by decide +kernel
theorem dX8_canClose_131 : decode cX8_canClose 131 = .ok (.iload_n 3, 1) := by decide +kernel
theorem dX8_canClose_132 : decode cX8_canClose 132 = .ok (.iaload, 1) := by decide +kernel
theorem dX8_canClose_133 : decode cX8_canClose 133 = .ok (.ifCond .ne 11, 3) := by decide +kernel
theorem dX8_canClose_136 : decode cX8_canClose 136 = .ok (.aload_n 0, 1) := by decide +kernel
theorem dX8_canClose_137 : decode cX8_canClose 137 = .ok (.iload_n 3, 1) := by decide +kernel
theorem dX8_canClose_138 : decode cX8_canClose 138 = .ok (.invokevirtual 108, 3) := by decide +kernel
theorem dX8_canClose_141 : decode cX8_canClose 141 = .ok (.ifCond .eq 25, 3) := by decide +kernel
theorem dX8_canClose_144 : decode cX8_canClose 144 = .ok (.aload_n 0, 1) := by decide +kernel
theorem dX8_canClose_145 : decode cX8_canClose 145 = .ok (.getfield 16, 3) := by decide +kernel
theorem dX8_canClose_148 : decode cX8_canClose 148 = .ok (.iload_n 3, 1) := by decide +kernel
theorem dX8_canClose_149 : decode cX8_canClose 149 = .ok (.iaload, 1) := by decide +kernel
theorem dX8_canClose_150 : decode cX8_canClose 150 = .ok (.iconst 1, 1) := by decide +kernel
theorem dX8_canClose_151 : decode cX8_canClose 151 = .ok (.if_icmp .ne 11, 3) := by decide +kernel
theorem dX8_canClose_154 : decode cX8_canClose 154 = .ok (.aload_n 0, 1) := by decide +kernel
theorem dX8_canClose_155 : decode cX8_canClose 155 = .ok (.iload_n 3, 1) := by decide +kernel
theorem dX8_canClose_156 : decode cX8_canClose 156 = .ok (.invokevirtual 111, 3) := by decide +kernel
theorem dX8_canClose_159 : decode cX8_canClose 159 = .ok (.ifCond .eq 7, 3) := by decide +kernel
theorem dX8_canClose_162 : decode cX8_canClose 162 = .ok (.iconst 1, 1) := by decide +kernel
theorem dX8_canClose_163 : decode cX8_canClose 163 = .ok (.goto 4, 3) := by decide +kernel
theorem dX8_canClose_166 : decode cX8_canClose 166 = .ok (.iconst 0, 1) := by decide +kernel
theorem dX8_canClose_167 : decode cX8_canClose 167 = .ok (.istore_n 2, 1) := by decide +kernel
theorem dX8_canClose_168 : decode cX8_canClose 168 = .ok (.iinc 3 1, 3) := by decide +kernel
theorem dX8_canClose_171 : decode cX8_canClose 171 = .ok (.goto (-130), 3) := by decide +kernel
theorem dX8_canClose_174 : decode cX8_canClose 174 = .ok (.iload_n 2, 1) := by decide +kernel
theorem dX8_canClose_175 : decode cX8_canClose 175 = .ok (.ireturn, 1) := by decide +kernel
set_option maxRecDepth 20000 in
theorem ggX8_night_X8_isIn : GoodIn wsX8_night wsX8_isIn := goodIn_r _ [15] (by decide +kernel) (by decide +kernel)
set_option maxRecDepth 20000 in
theorem gX8_night_X8_isIn : GoodIn wsX8_night (va_wsS RX8 62 yX8_isIn wsX8_isIn) := goodIn_app (goodIn_of _ (by decide +kernel)) ggX8_night_X8_isIn
set_option maxRecDepth 20000 in
theorem ggX8_night_X8_fails : GoodIn wsX8_night wsX8_fails := goodIn_r _ [19, 20, 21, 22, 23, 24, 25, 26, 27, 28, 29, 30, 31, 32, 33, 34, 35, 36, 37, 38, 39, 40, 41, 42, 43, 44, 45, 46, 47, 48, 49] (by decide +kernel) (by decide +kernel)
set_option maxRecDepth 20000 in
theorem gX8_night_X8_fails : GoodIn wsX8_night (wsV RX8 73 RX8 yX8_fails wsX8_fails) := goodIn_app (goodIn_of _ (by decide +kernel)) ggX8_night_X8_fails
theorem dX8_night_0 : decode cX8_night 0 = .ok (.iload_n 1, 1) := by decide +kernel
theorem dX8_night_1 : decode cX8_night 1 = .ok (.iconst 1, 1) := by decide +kernel
theorem dX8_night_2 : decode cX8_night 2 = .ok (.bipush 100, 2) := by decide +kernel
theorem dX8_night_4 : decode cX8_night 4 = .ok (.invokestatic 62, 3) := by decide +kernel
theorem dX8_night_7 : decode cX8_night 7 = .ok (.istore_n 2, 1) := by decide +kernel
theorem dX8_night_8 : decode cX8_night 8 = .ok (.aload_n 0, 1) := by decide +kernel
theorem dX8_night_9 : decode cX8_night 9 = .ok (.iload_n 2, 1) := by decide +kernel
theorem dX8_night_10 : decode cX8_night 10 = .ok (.ifCond .ne 7, 3) := by decide +kernel
theorem dX8_night_13 : decode cX8_night 13 = .ok (.iconst 1, 1) := by decide +kernel
theorem dX8_night_14 : decode cX8_night 14 = .ok (.goto 23, 3) := by decide +kernel
theorem dX8_night_17 : decode cX8_night 17 = .ok (.aload_n 0, 1) := by decide +kernel
theorem dX8_night_18 : decode cX8_night 18 = .ok (.getfield 84, 3) := by decide +kernel
theorem dX8_night_21 : decode cX8_night 21 = .ok (.iconst 1, 1) := by decide +kernel
theorem dX8_night_22 : decode cX8_night 22 = .ok (.if_icmp .eq 10, 3) := by decide +kernel
theorem dX8_night_25 : decode cX8_night 25 = .ok (.aload_n 0, 1) := by decide +kernel
theorem dX8_night_26 : decode cX8_night 26 = .ok (.getfield 90, 3) := by decide +kernel
theorem dX8_night_29 : decode cX8_night 29 = .ok (.ifCond .ne 7, 3) := by decide +kernel
theorem dX8_night_32 : decode cX8_night 32 = .ok (.iconst 2, 1) := by decide +kernel
theorem dX8_night_33 : decode cX8_night 33 = .ok (.goto 4, 3) := by decide +kernel
theorem dX8_night_36 : decode cX8_night 36 = .ok (.iconst 0, 1) := by decide +kernel
theorem dX8_night_37 : decode cX8_night 37 = .ok (.invokevirtual 73, 3) := by decide +kernel
theorem dX8_night_40 : decode cX8_night 40 = .ok (.ifCond .eq 4, 3) := by decide +kernel
theorem dX8_night_43 : decode cX8_night 43 = .ok (.return_, 1) := by decide +kernel
theorem dX8_night_44 : decode cX8_night 44 = .ok (.aload_n 0, 1) := by decide +kernel
theorem dX8_night_45 : decode cX8_night 45 = .ok (.iconst 1, 1) := by decide +kernel
theorem dX8_night_46 : decode cX8_night 46 = .ok (.putfield 84, 3) := by decide +kernel
theorem dX8_night_49 : decode cX8_night 49 = .ok (.aload_n 0, 1) := by decide +kernel
theorem dX8_night_50 : decode cX8_night 50 = .ok (.iload_n 1, 1) := by decide +kernel
theorem dX8_night_51 : decode cX8_night 51 = .ok (.putfield 114, 3) := by decide +kernel
theorem dX8_night_54 : decode cX8_night 54 = .ok (.aload_n 0, 1) := by decide +kernel
theorem dX8_night_55 : decode cX8_night 55 = .ok (.iconst 0, 1) := by decide +kernel
theorem dX8_night_56 : decode cX8_night 56 = .ok (.putfield 117, 3) := by decide +kernel
theorem dX8_night_59 : decode cX8_night 59 = .ok (.aload_n 0, 1) := by decide +kernel
theorem dX8_night_60 : decode cX8_night 60 = .ok (.iconst 0, 1) := by decide +kernel
theorem dX8_night_61 : decode cX8_night 61 = .ok (.putfield 43, 3) := by decide +kernel
theorem dX8_night_64 : decode cX8_night 64 = .ok (.aload_n 0, 1) := by decide +kernel
theorem dX8_night_65 : decode cX8_night 65 = .ok (.iconst 0, 1) := by decide +kernel
theorem dX8_night_66 : decode cX8_night 66 = .ok (.putfield 120, 3) := by decide +kernel
theorem dX8_night_69 : decode cX8_night 69 = .ok (.aload_n 0, 1) := by decide +kernel
theorem dX8_night_70 : decode cX8_night 70 = .ok (.iconst 0, 1) := by decide +kernel
theorem dX8_night_71 : decode cX8_night 71 = .ok (.putfield 96, 3) := by decide +kernel
theorem dX8_night_74 : decode cX8_night 74 = .ok (.iconst 0, 1) := by decide +kernel
theorem dX8_night_75 : decode cX8_night 75 = .ok (.istore_n 3, 1) := by decide +kernel
theorem dX8_night_76 : decode cX8_night 76 = .ok (.iload_n 3, 1) := by decide +kernel
theorem dX8_night_77 : decode cX8_night 77 = .ok (.iconst 4, 1) := by decide +kernel
theorem dX8_night_78 : decode cX8_night 78 = .ok (.if_icmp .ge 33, 3) := by decide +kernel
theorem dX8_night_81 : decode cX8_night 81 = .ok (.aload_n 0, 1) := by decide +kernel
theorem dX8_night_82 : decode cX8_night 82 = .ok (.getfield 47, 3) := by decide +kernel
theorem dX8_night_85 : decode cX8_night 85 = .ok (.iload_n 3, 1) := by decide +kernel
theorem dX8_night_86 : decode cX8_night 86 = .ok (.aload_n 0, 1) := by decide +kernel
theorem dX8_night_87 : decode cX8_night 87 = .ok (.getfield 7, 3) := by decide +kernel
theorem dX8_night_90 : decode cX8_night 90 = .ok (.iload_n 3, 1) := by decide +kernel
theorem dX8_night_91 : decode cX8_night 91 = .ok (.iaload, 1) := by decide +kernel
theorem dX8_night_92 : decode cX8_night 92 = .ok (.iastore, 1) := by decide +kernel
theorem dX8_night_93 : decode cX8_night 93 = .ok (.aload_n 0, 1) := by decide +kernel
theorem dX8_night_94 : decode cX8_night 94 = .ok (.getfield 50, 3) := by decide +kernel
theorem dX8_night_97 : decode cX8_night 97 = .ok (.iload_n 3, 1) := by decide +kernel
theorem dX8_night_98 : decode cX8_night 98 = .ok (.aload_n 0, 1) := by decide +kernel
theorem dX8_night_99 : decode cX8_night 99 = .ok (.getfield 13, 3) := by decide +kernel
theorem dX8_night_102 : decode cX8_night 102 = .ok (.iload_n 3, 1) := by decide +kernel
theorem dX8_night_103 : decode cX8_night 103 = .ok (.iaload, 1) := by decide +kernel
theorem dX8_night_104 : decode cX8_night 104 = .ok (.iastore, 1) := by decide +kernel
theorem dX8_night_105 : decode cX8_night 105 = .ok (.iinc 3 1, 3) := by decide +kernel
theorem dX8_night_108 : decode cX8_night 108 = .ok (.goto (-32), 3) := by decide +kernel
theorem dX8_night_111 : decode cX8_night 111 = .ok (.return_, 1) := by decide +kernel
