theorem dX7_share_22 : decode cX7_share 22 = .ok (.istore_n 2, 1) := by decide +kernel
theorem dX7_share_23 : decode cX7_share 23 = .ok (.iinc 3 1, 3) := by decide +kernel
theorem dX7_share_26 : decode cX7_share 26 = .ok (.goto (-18), 3) := by decide +kernel
theorem dX7_share_29 : decode cX7_share 29 = .ok (.iload_n 2, 1) := by decide +kernel
theorem dX7_share_30 : decode cX7_share 30 = .ok (.ifCond .ne 5, 3) := by decide +kernel
theorem dX7_share_33 : decode cX7_share 33 = .ok (.dconst 0, 1) := by decide +kernel
theorem dX7_share_34 : decode cX7_share 34 = .ok (.dreturn, 1) := by decide +kernel
theorem dX7_share_35 : decode cX7_share 35 = .ok (.aload_n 0, 1) := by decide +kernel
theorem dX7_share_36 : decode cX7_share 36 = .ok (.getfield 206, 3) := by decide +kernel
theorem dX7_share_39 : decode cX7_share 39 = .ok (.i2d, 1) := by decide +kernel
theorem dX7_share_40 : decode cX7_share 40 = .ok (.aload_n 0, 1) := by decide +kernel
theorem dX7_share_41 : decode cX7_share 41 = .ok (.getfield 60, 3) := by decide +kernel
theorem dX7_share_44 : decode cX7_share 44 = .ok (.iload_n 1, 1) := by decide +kernel
theorem dX7_share_45 : decode cX7_share 45 = .ok (.iaload, 1) := by decide +kernel
theorem dX7_share_46 : decode cX7_share 46 = .ok (.i2d, 1) := by decide +kernel
theorem dX7_share_47 : decode cX7_share 47 = .ok (.dmul, 1) := by decide +kernel
theorem dX7_share_48 : decode cX7_share 48 = .ok (.iload_n 2, 1) := by decide +kernel
theorem dX7_share_49 : decode cX7_share 49 = .ok (.i2d, 1) := by decide +kernel
theorem dX7_share_50 : decode cX7_share 50 = .ok (.ddiv, 1) := by decide +kernel
theorem dX7_share_51 : decode cX7_share 51 = .ok (.dreturn, 1) := by decide +kernel
theorem dX7_isIn_0 : decode cX7_isIn 0 = .ok (.iload_n 0, 1) := by decide +kernel
theorem dX7_isIn_1 : decode cX7_isIn 1 = .ok (.iload_n 1, 1) := by decide +kernel
theorem dX7_isIn_2 : decode cX7_isIn 2 = .ok (.ishr, 1) := by decide +kernel
theorem dX7_isIn_3 : decode cX7_isIn 3 = .ok (.iconst 1, 1) := by decide +kernel
theorem dX7_isIn_4 : decode cX7_isIn 4 = .ok (.iand, 1) := by decide +kernel
theorem dX7_isIn_5 : decode cX7_isIn 5 = .ok (.iconst 1, 1) := by decide +kernel
theorem dX7_isIn_6 : decode cX7_isIn 6 = .ok (.if_icmp .ne 7, 3) := by decide +kernel
theorem dX7_isIn_9 : decode cX7_isIn 9 = .ok (.iconst 1, 1) := by decide +kernel
theorem dX7_isIn_10 : decode cX7_isIn 10 = .ok (.goto 4, 3) := by decide +kernel
theorem dX7_isIn_13 : decode cX7_isIn 13 = .ok (.iconst 0, 1) := by decide +kernel
theorem dX7_isIn_14 : decode cX7_isIn 14 = .ok (.ireturn, 1) := by decide +kernel
theorem dX7_needMask_0 : decode cX7_needMask 0 = .ok (.iload_n 0, 1) := by decide +kernel
theorem dX7_needMask_1 : decode cX7_needMask 1 = .ok (.ifCond .lt 9, 3) := by decide +kernel
theorem dX7_needMask_4 : decode cX7_needMask 4 = .ok (.iload_n 0, 1) := by decide +kernel
theorem dX7_needMask_5 : decode cX7_needMask 5 = .ok (.bipush 6, 2) := by decide +kernel
theorem dX7_needMask_7 : decode cX7_needMask 7 = .ok (.if_icmp .lt 13, 3) := by decide +kernel
theorem dX7_needMask_10 : decode cX7_needMask 10 = .ok (.new 189, 3) := by decide +kernel
theorem dX7_needMask_13 : decode cX7_needMask 13 = .ok (.dup, 1) := by decide +kernel
theorem dX7_needMask_14 : decode cX7_needMask 14 = .ok (.ldc 248, 2) := by decide +kernel
theorem dX7_needMask_16 : decode cX7_needMask 16 = .ok (.invokespecial 193, 3) := by decide +kernel
theorem dX7_needMask_19 : decode cX7_needMask 19 = .ok (.athrow, 1) := by decide +kernel
theorem dX7_needMask_20 : decode cX7_needMask 20 = .ok (.return_, 1) := by decide +kernel
theorem dX7_needSecret_0 : decode cX7_needSecret 0 = .ok (.iload_n 0, 1) := by decide +kernel
theorem dX7_needSecret_1 : decode cX7_needSecret 1 = .ok (.ifCond .lt 8, 3) := by decide +kernel
theorem dX7_needSecret_4 : decode cX7_needSecret 4 = .ok (.iload_n 0, 1) := by decide +kernel
theorem dX7_needSecret_5 : decode cX7_needSecret 5 = .ok (.iconst 4, 1) := by decide +kernel
theorem dX7_needSecret_6 : decode cX7_needSecret 6 = .ok (.if_icmp .lt 13, 3) := by decide +kernel
theorem dX7_needSecret_9 : decode cX7_needSecret 9 = .ok (.new 189, 3) := by decide +kernel
theorem dX7_needSecret_12 : decode cX7_needSecret 12 = .ok (.dup, 1) := by decide +kernel
theorem dX7_needSecret_13 : decode cX7_needSecret 13 = .ok (.ldc 250, 2) := by decide +kernel
theorem dX7_needSecret_15 : decode cX7_needSecret 15 = .ok (.invokespecial 193, 3) := by decide +kernel
theorem dX7_needSecret_18 : decode cX7_needSecret 18 = .ok (.athrow, 1) := by decide +kernel
theorem dX7_needSecret_19 : decode cX7_needSecret 19 = .ok (.return_, 1) := by decide +kernel
theorem dX7_needProp_0 : decode cX7_needProp 0 = .ok (.iload_n 0, 1) := by decide +kernel
theorem dX7_needProp_1 : decode cX7_needProp 1 = .ok (.ifCond .lt 8, 3) := by decide +kernel
theorem dX7_needProp_4 : decode cX7_needProp 4 = .ok (.iload_n 0, 1) := by decide +kernel
theorem dX7_needProp_5 : decode cX7_needProp 5 = .ok (.iconst 4, 1) := by decide +kernel
theorem dX7_needProp_6 : decode cX7_needProp 6 = .ok (.if_icmp .lt 13, 3) := by decide +kernel
theorem dX7_needProp_9 : decode cX7_needProp 9 = .ok (.new 189, 3) := by decide +kernel
theorem dX7_needProp_12 : decode cX7_needProp 12 = .ok (.dup, 1) := by decide +kernel
theorem dX7_needProp_13 : decode cX7_needProp 13 = .ok (.ldc 252, 2) := by decide +kernel
theorem dX7_needProp_15 : decode cX7_needProp 15 = .ok (.invokespecial 193, 3) := by decide +kernel
theorem dX7_needProp_18 : decode cX7_needProp 18 = .ok (.athrow, 1) := by decide +kernel
theorem dX7_needProp_19 : decode cX7_needProp 19 = .ok (.return_, 1) := by decide +kernel
theorem dX7_needRange_0 : decode cX7_needRange 0 = .ok (.iload_n 0, 1) := by decide +kernel
theorem dX7_needRange_1 : decode cX7_needRange 1 = .ok (.iload_n 1, 1) := by decide +kernel
theorem dX7_needRange_2 : decode cX7_needRange 2 = .ok (.if_icmp .lt 8, 3) := by decide +kernel
theorem dX7_needRange_5 : decode cX7_needRange 5 = .ok (.iload_n 0, 1) := by decide +kernel
theorem dX7_needRange_6 : decode cX7_needRange 6 = .ok (.iload_n 2, 1) := by decide +kernel
theorem dX7_needRange_7 : decode cX7_needRange 7 = .ok (.if_icmp .le 13, 3) := by decide +kernel
theorem dX7_needRange_10 : decode cX7_needRange 10 = .ok (.new 243, 3) := by decide +kernel
theorem dX7_needRange_13 : decode cX7_needRange 13 = .ok (.dup, 1) := by decide +kernel
theorem dX7_needRange_14 : decode cX7_needRange 14 = .ok (.ldc 254, 2) := by decide +kernel
theorem dX7_needRange_16 : decode cX7_needRange 16 = .ok (.invokespecial 247, 3) := by decide +kernel
theorem dX7_needRange_19 : decode cX7_needRange 19 = .ok (.athrow, 1) := by decide +kernel
theorem dX7_needRange_20 : decode cX7_needRange 20 = .ok (.return_, 1) := by decide +kernel
theorem dX7_needUnlike_0 : decode cX7_needUnlike 0 = .ok (.iload_n 0, 1) := by decide +kernel
theorem dX7_needUnlike_1 : decode cX7_needUnlike 1 = .ok (.iload_n 1, 1) := by decide +kernel
theorem dX7_needUnlike_2 : decode cX7_needUnlike 2 = .ok (.if_icmp .ne 14, 3) := by decide +kernel
theorem dX7_needUnlike_5 : decode cX7_needUnlike 5 = .ok (.new 243, 3) := by decide +kernel
theorem dX7_needUnlike_8 : decode cX7_needUnlike 8 = .ok (.dup, 1) := by decide +kernel
theorem dX7_needUnlike_9 : decode cX7_needUnlike 9 = .ok (.ldc_w 256, 3) := by decide +kernel
theorem dX7_needUnlike_12 : decode cX7_needUnlike 12 = .ok (.invokespecial 247, 3) := by decide +kernel
theorem dX7_needUnlike_15 : decode cX7_needUnlike 15 = .ok (.athrow, 1) := by decide +kernel
theorem dX7_needUnlike_16 : decode cX7_needUnlike 16 = .ok (.return_, 1) := by decide +kernel
theorem dX7_needPlay_0 : decode cX7_needPlay 0 = .ok (.aload_n 0, 1) := by decide +kernel
theorem dX7_needPlay_1 : decode cX7_needPlay 1 = .ok (.getfield 70, 3) := by decide +kernel
theorem dX7_needPlay_4 : decode cX7_needPlay 4 = .ok (.iconst 1, 1) := by decide +kernel
theorem dX7_needPlay_5 : decode cX7_needPlay 5 = .ok (.if_icmp .eq 14, 3) := by decide +kernel
theorem dX7_needPlay_8 : decode cX7_needPlay 8 = .ok (.new 114, 3) := by decide +kernel
theorem dX7_needPlay_11 : decode cX7_needPlay 11 = .ok (.dup, 1) := by decide +kernel
theorem dX7_needPlay_12 : decode cX7_needPlay 12 = .ok (.ldc_w 258, 3) := by decide +kernel
theorem dX7_needPlay_15 : decode cX7_needPlay 15 = .ok (.invokespecial 118, 3) := by decide +kernel
theorem dX7_needPlay_18 : decode cX7_needPlay 18 = .ok (.athrow, 1) := by decide +kernel
theorem dX7_needPlay_19 : decode cX7_needPlay 19 = .ok (.return_, 1) := by decide +kernel
theorem dX7_needNoPlay_0 : decode cX7_needNoPlay 0 = .ok (.aload_n 0, 1) := by decide +kernel
theorem dX7_needNoPlay_1 : decode cX7_needNoPlay 1 = .ok (.getfield 70, 3) := by decide +kernel
theorem dX7_needNoPlay_4 : decode cX7_needNoPlay 4 = .ok (.iconst 1, 1) := by decide +kernel
theorem dX7_needNoPlay_5 : decode cX7_needNoPlay 5 = .ok (.if_icmp .ne 14, 3) := by decide +kernel
theorem dX7_needNoPlay_8 : decode cX7_needNoPlay 8 = .ok (.new 114, 3) := by decide +kernel
theorem dX7_needNoPlay_11 : decode cX7_needNoPlay 11 = .ok (.dup, 1) := by decide +kernel
theorem dX7_needNoPlay_12 : decode cX7_needNoPlay 12 = .ok (.ldc_w 260, 3) := by decide +kernel
theorem dX7_needNoPlay_15 : decode cX7_needNoPlay 15 = .ok (.invokespecial 118, 3) := by decide +kernel
theorem dX7_needNoPlay_18 : decode cX7_needNoPlay 18 = .ok (.athrow, 1) := by decide +kernel
theorem dX7_needNoPlay_19 : decode cX7_needNoPlay 19 = .ok (.return_, 1) := by decide +kernel
set_option maxRecDepth 20000 in
theorem ggX7_needOn_X7_isIn : GoodIn wsX7_needOn wsX7_isIn := goodIn_r _ [8] (by decide +kernel) (by decide +kernel)
set_option maxRecDepth 20000 in
theorem gX7_needOn_X7_isIn : GoodIn wsX7_needOn (va_wsS RX7 131 yX7_isIn wsX7_isIn) := goodIn_app (goodIn_of _ (by decide +kernel)) ggX7_needOn_X7_isIn
theorem dX7_needOn_0 : decode cX7_needOn 0 = .ok (.aload_n 0, 1) := by decide +kernel
theorem dX7_needOn_1 : decode cX7_needOn 1 = .ok (.getfield 26, 3) := by decide +kernel
theorem dX7_needOn_4 : decode cX7_needOn 4 = .ok (.getfield 128, 3) := by decide +kernel
theorem dX7_needOn_7 : decode cX7_needOn 7 = .ok (.iload_n 1, 1) := by decide +kernel
theorem dX7_needOn_8 : decode cX7_needOn 8 = .ok (.invokestatic 131, 3) := by decide +kernel
theorem dX7_needOn_11 : decode cX7_needOn 11 = .ok (.ifCond .ne 14, 3) := by decide +kernel
theorem dX7_needOn_14 : decode cX7_needOn 14 = .ok (.new 114, 3) := by decide +kernel
theorem dX7_needOn_17 : decode cX7_needOn 17 = .ok (.dup, 1) := by decide +kernel
theorem dX7_needOn_18 : decode cX7_needOn 18 = .ok (.ldc_w 262, 3) := by decide +kernel
theorem dX7_needOn_21 : decode cX7_needOn 21 = .ok (.invokespecial 118, 3) := by decide +kernel
theorem dX7_needOn_24 : decode cX7_needOn 24 = .ok (.athrow, 1) := by decide +kernel
theorem dX7_needOn_25 : decode cX7_needOn 25 = .ok (.return_, 1) := by decide +kernel
theorem dX7_loreToAsk_0 : decode cX7_loreToAsk 0 = .ok (.aload_n 0, 1) := by decide +kernel
theorem dX7_loreToAsk_1 : decode cX7_loreToAsk 1 = .ok (.getfield 70, 3) := by decide +kernel
theorem dX7_loreToAsk_4 : decode cX7_loreToAsk 4 = .ok (.ifCond .ne 10, 3) := by decide +kernel
theorem dX7_loreToAsk_7 : decode cX7_loreToAsk 7 = .ok (.aload_n 0, 1) := by decide +kernel
theorem dX7_loreToAsk_8 : decode cX7_loreToAsk 8 = .ok (.getfield 19, 3) := by decide +kernel
theorem dX7_loreToAsk_11 : decode cX7_loreToAsk 11 = .ok (.goto 10, 3) := by decide +kernel
theorem dX7_loreToAsk_14 : decode cX7_loreToAsk 14 = .ok (.aload_n 0, 1) := by decide +kernel
theorem dX7_loreToAsk_15 : decode cX7_loreToAsk 15 = .ok (.getfield 26, 3) := by decide +kernel
theorem dX7_loreToAsk_18 : decode cX7_loreToAsk 18 = .ok (.getfield 157, 3) := by decide +kernel
theorem dX7_loreToAsk_21 : decode cX7_loreToAsk 21 = .ok (.areturn, 1) := by decide +kernel
set_option maxRecDepth 20000 in
theorem ggX7_wouldSpoil_X3_canBeClosed : GoodIn wsX7_wouldSpoil wsX3_canBeClosed := goodIn_r _ [9, 10, 11, 12, 13, 14, 15, 16, 17, 18, 19, 20, 21, 22, 23, 24, 25, 26, 27, 28, 29, 30, 31, 32, 8, 33, 34, 35, 36, 37, 38, 39, 40, 41, 42, 43, 44, 45, 46, 47, 48, 49, 50, 51, 52, 53, 54, 55, 56, 57, 58, 59, 60, 61, 62, 63, 64, 65, 66, 67, 68, 69, 70, 71, 72, 73, 74, 100, 101, 102, 96, 97, 98, 99, 103, 104, 105, 106, 107, 108, 109] (by decide +kernel) (by decide +kernel)
set_option maxRecDepth 20000 in
theorem gX7_wouldSpoil_X3_canBeClosed : GoodIn wsX7_wouldSpoil (wsV RX7 221 RX3 yX3_canBeClosed wsX3_canBeClosed) := goodIn_app (goodIn_of _ (by decide +kernel)) ggX7_wouldSpoil_X3_canBeClosed
set_option maxRecDepth 20000 in
theorem ggX7_wouldSpoil_X2_learn : GoodIn wsX7_wouldSpoil wsX2_learn := goodIn_r _ [69, 24, 108, 109] (by decide +kernel) (by decide +kernel)
set_option maxRecDepth 20000 in
theorem gX7_wouldSpoil_X2_learn : GoodIn wsX7_wouldSpoil (wsV RX7 88 RX2 yX2_learn wsX2_learn) := goodIn_app (goodIn_of _ (by decide +kernel)) ggX7_wouldSpoil_X2_learn
set_option maxRecDepth 20000 in
theorem ggX7_wouldSpoil_X2_forget : GoodIn wsX7_wouldSpoil wsX2_forget := goodIn_r _ [79, 24, 108, 109] (by decide +kernel) (by decide +kernel)
set_option maxRecDepth 20000 in
theorem gX7_wouldSpoil_X2_forget : GoodIn wsX7_wouldSpoil (wsV RX7 92 RX2 yX2_forget wsX2_forget) := goodIn_app (goodIn_of _ (by decide +kernel)) ggX7_wouldSpoil_X2_forget
theorem dX7_wouldSpoil_0 : decode cX7_wouldSpoil 0 = .ok (.aload_n 0, 1) := by decide +kernel
theorem dX7_wouldSpoil_1 : decode cX7_wouldSpoil 1 = .ok (.getfield 35, 3) := by decide +kernel
theorem dX7_wouldSpoil_4 : decode cX7_wouldSpoil 4 = .ok (.aload_n 0, 1) := by decide +kernel
theorem dX7_wouldSpoil_5 : decode cX7_wouldSpoil 5 = .ok (.getfield 74, 3) := by decide +kernel
theorem dX7_wouldSpoil_8 : decode cX7_wouldSpoil 8 = .ok (.invokevirtual 221, 3) := by decide +kernel
theorem dX7_wouldSpoil_11 : decode cX7_wouldSpoil 11 = .ok (.ifCond .ne 5, 3) := by decide +kernel
theorem dX7_wouldSpoil_14 : decode cX7_wouldSpoil 14 = .ok (.iconst 0, 1) := by decide +kernel
theorem dX7_wouldSpoil_15 : decode cX7_wouldSpoil 15 = .ok (.ireturn, 1) := by decide +kernel
theorem dX7_wouldSpoil_16 : decode cX7_wouldSpoil 16 = .ok (.aload_n 0, 1) := by decide +kernel
theorem dX7_wouldSpoil_17 : decode cX7_wouldSpoil 17 = .ok (.getfield 26, 3) := by decide +kernel
theorem dX7_wouldSpoil_20 : decode cX7_wouldSpoil 20 = .ok (.getfield 157, 3) := by decide +kernel
theorem dX7_wouldSpoil_23 : decode cX7_wouldSpoil 23 = .ok (.iload_n 1, 1) := by decide +kernel
theorem dX7_wouldSpoil_24 : decode cX7_wouldSpoil 24 = .ok (.iload_n 2, 1) := by decide +kernel
theorem dX7_wouldSpoil_25 : decode cX7_wouldSpoil 25 = .ok (.invokevirtual 88, 3) := by decide +kernel
theorem dX7_wouldSpoil_28 : decode cX7_wouldSpoil 28 = .ok (.aload_n 0, 1) := by decide +kernel
theorem dX7_wouldSpoil_29 : decode cX7_wouldSpoil 29 = .ok (.getfield 35, 3) := by decide +kernel
theorem dX7_wouldSpoil_32 : decode cX7_wouldSpoil 32 = .ok (.aload_n 0, 1) := by decide +kernel
theorem dX7_wouldSpoil_33 : decode cX7_wouldSpoil 33 = .ok (.getfield 74, 3) := by decide +kernel
theorem dX7_wouldSpoil_36 : decode cX7_wouldSpoil 36 = .ok (.invokevirtual 221, 3) := by decide +kernel
theorem dX7_wouldSpoil_39 : decode cX7_wouldSpoil 39 = .ok (.istore_n 3, 1) := by decide +kernel
theorem dX7_wouldSpoil_40 : decode cX7_wouldSpoil 40 = .ok (.aload_n 0, 1) := by decide +kernel
theorem dX7_wouldSpoil_41 : decode cX7_wouldSpoil 41 = .ok (.getfield 26, 3) := by decide +kernel
theorem dX7_wouldSpoil_44 : decode cX7_wouldSpoil 44 = .ok (.getfield 157, 3) := by decide +kernel
theorem dX7_wouldSpoil_47 : decode cX7_wouldSpoil 47 = .ok (.iload_n 1, 1) := by decide +kernel
theorem dX7_wouldSpoil_48 : decode cX7_wouldSpoil 48 = .ok (.iload_n 2, 1) := by decide +kernel
theorem dX7_wouldSpoil_49 : decode cX7_wouldSpoil 49 = .ok (.invokevirtual 92, 3) := by decide +kernel
theorem dX7_wouldSpoil_52 : decode cX7_wouldSpoil 52 = .ok (.iload_n 3, 1) := by decide +kernel
theorem dX7_wouldSpoil_53 : decode cX7_wouldSpoil 53 = .ok (.ifCond .ne 7, 3) := by decide +kernel
theorem dX7_wouldSpoil_56 : decode cX7_wouldSpoil 56 = .ok (.iconst 1, 1) := by decide +kernel
theorem dX7_wouldSpoil_57 : decode cX7_wouldSpoil 57 = .ok (.goto 4, 3) := by decide +kernel
theorem dX7_wouldSpoil_60 : decode cX7_wouldSpoil 60 = .ok (.iconst 0, 1) := by decide +kernel
theorem dX7_wouldSpoil_61 : decode cX7_wouldSpoil 61 = .ok (.ireturn, 1) := by decide +kernel
set_option maxRecDepth 20000 in
theorem ggX7_endMove_X7_passMinutes : GoodIn wsX7_endMove wsX7_passMinutes := goodIn_r _ [11, 12, 5, 13, 14, 15, 16, 17, 18, 19, 20, 21, 22, 23, 24, 25, 26, 27, 28, 29, 30] (by decide +kernel) (by decide +kernel)
set_option maxRecDepth 20000 in
theorem gX7_endMove_X7_passMinutes : GoodIn wsX7_endMove (wsV RX7 218 RX7 yX7_passMinutes wsX7_passMinutes) := goodIn_app (goodIn_of _ (by decide +kernel)) ggX7_endMove_X7_passMinutes
theorem dX7_endMove_0 : decode cX7_endMove 0 = .ok (.aload_n 0, 1) := by decide +kernel
theorem dX7_endMove_1 : decode cX7_endMove 1 = .ok (.dup, 1) := by decide +kernel
theorem dX7_endMove_2 : decode cX7_endMove 2 = .ok (.getfield 154, 3) := by decide +kernel
theorem dX7_endMove_5 : decode cX7_endMove 5 = .ok (.iconst 1, 1) := by decide +kernel
theorem dX7_endMove_6 : decode cX7_endMove 6 = .ok (.iadd, 1) := by decide +kernel
theorem dX7_endMove_7 : decode cX7_endMove 7 = .ok (.putfield 154, 3) := by decide +kernel
theorem dX7_endMove_10 : decode cX7_endMove 10 = .ok (.iload_n 1, 1) := by decide +kernel
theorem dX7_endMove_11 : decode cX7_endMove 11 = .ok (.ifCond .eq 42, 3) := by decide +kernel
theorem dX7_endMove_14 : decode cX7_endMove 14 = .ok (.aload_n 0, 1) := by decide +kernel
theorem dX7_endMove_15 : decode cX7_endMove 15 = .ok (.dup, 1) := by decide +kernel
theorem dX7_endMove_16 : decode cX7_endMove 16 = .ok (.getfield 74, 3) := by decide +kernel
theorem dX7_endMove_19 : decode cX7_endMove 19 = .ok (.iconst 1, 1) := by decide +kernel
theorem dX7_endMove_20 : decode cX7_endMove 20 = .ok (.iadd, 1) := by decide +kernel
theorem dX7_endMove_21 : decode cX7_endMove 21 = .ok (.putfield 74, 3) := by decide +kernel
theorem dX7_endMove_24 : decode cX7_endMove 24 = .ok (.aload_n 0, 1) := by decide +kernel
theorem dX7_endMove_25 : decode cX7_endMove 25 = .ok (.getfield 74, 3) := by decide +kernel
theorem dX7_endMove_28 : decode cX7_endMove 28 = .ok (.aload_n 0, 1) := by decide +kernel
theorem dX7_endMove_29 : decode cX7_endMove 29 = .ok (.getfield 10, 3) := by decide +kernel
theorem dX7_endMove_32 : decode cX7_endMove 32 = .ok (.getfield 111, 3) := by decide +kernel
theorem dX7_endMove_35 : decode cX7_endMove 35 = .ok (.if_icmp .lt 18, 3) := by decide +kernel
theorem dX7_endMove_38 : decode cX7_endMove 38 = .ok (.aload_n 0, 1) := by decide +kernel
theorem dX7_endMove_39 : decode cX7_endMove 39 = .ok (.iconst 2, 1) := by decide +kernel
theorem dX7_endMove_40 : decode cX7_endMove 40 = .ok (.putfield 70, 3) := by decide +kernel
theorem dX7_endMove_43 : decode cX7_endMove 43 = .ok (.aload_n 0, 1) := by decide +kernel
theorem dX7_endMove_44 : decode cX7_endMove 44 = .ok (.dup, 1) := by decide +kernel
theorem dX7_endMove_45 : decode cX7_endMove 45 = .ok (.getfield 237, 3) := by decide +kernel
theorem dX7_endMove_48 : decode cX7_endMove 48 = .ok (.iconst 1, 1) := by decide +kernel
theorem dX7_endMove_49 : decode cX7_endMove 49 = .ok (.iadd, 1) := by decide +kernel
theorem dX7_endMove_50 : decode cX7_endMove 50 = .ok (.putfield 237, 3) := by decide +kernel
theorem dX7_endMove_53 : decode cX7_endMove 53 = .ok (.aload_n 0, 1) := by decide +kernel
theorem dX7_endMove_54 : decode cX7_endMove 54 = .ok (.iconst 1, 1) := by decide +kernel
theorem dX7_endMove_55 : decode cX7_endMove 55 = .ok (.invokevirtual 218, 3) := by decide +kernel
theorem dX7_endMove_58 : decode cX7_endMove 58 = .ok (.iload_n 1, 1) := by decide +kernel
theorem dX7_endMove_59 : decode cX7_endMove 59 = .ok (.ifCond .eq 7, 3) := by decide +kernel
theorem dX7_endMove_62 : decode cX7_endMove 62 = .ok (.iconst 2, 1) := by decide +kernel
theorem dX7_endMove_63 : decode cX7_endMove 63 = .ok (.goto 4, 3) := by decide +kernel
theorem dX7_endMove_66 : decode cX7_endMove 66 = .ok (.iconst 1, 1) := by decide +kernel
theorem dX7_endMove_67 : decode cX7_endMove 67 = .ok (.ireturn, 1) := by decide +kernel
theorem dX7_passMinutes_0 : decode cX7_passMinutes 0 = .ok (.aload_n 0, 1) := by decide +kernel
theorem dX7_passMinutes_1 : decode cX7_passMinutes 1 = .ok (.dup, 1) := by decide +kernel
theorem dX7_passMinutes_2 : decode cX7_passMinutes 2 = .ok (.getfield 151, 3) := by decide +kernel
theorem dX7_passMinutes_5 : decode cX7_passMinutes 5 = .ok (.iload_n 1, 1) := by decide +kernel
theorem dX7_passMinutes_6 : decode cX7_passMinutes 6 = .ok (.iadd, 1) := by decide +kernel
theorem dX7_passMinutes_7 : decode cX7_passMinutes 7 = .ok (.putfield 151, 3) := by decide +kernel
theorem dX7_passMinutes_10 : decode cX7_passMinutes 10 = .ok (.aload_n 0, 1) := by decide +kernel
theorem dX7_passMinutes_11 : decode cX7_passMinutes 11 = .ok (.getfield 70, 3) := by decide +kernel
theorem dX7_passMinutes_14 : decode cX7_passMinutes 14 = .ok (.iconst 1, 1) := by decide +kernel
theorem dX7_passMinutes_15 : decode cX7_passMinutes 15 = .ok (.if_icmp .ne 29, 3) := by decide +kernel
theorem dX7_passMinutes_18 : decode cX7_passMinutes 18 = .ok (.aload_n 0, 1) := by decide +kernel
theorem dX7_passMinutes_19 : decode cX7_passMinutes 19 = .ok (.getfield 151, 3) := by decide +kernel
theorem dX7_passMinutes_22 : decode cX7_passMinutes 22 = .ok (.aload_n 0, 1) := by decide +kernel
theorem dX7_passMinutes_23 : decode cX7_passMinutes 23 = .ok (.getfield 148, 3) := by decide +kernel
theorem dX7_passMinutes_26 : decode cX7_passMinutes 26 = .ok (.if_icmp .lt 18, 3) := by decide +kernel
theorem dX7_passMinutes_29 : decode cX7_passMinutes 29 = .ok (.aload_n 0, 1) := by decide +kernel
theorem dX7_passMinutes_30 : decode cX7_passMinutes 30 = .ok (.iconst 3, 1) := by decide +kernel
theorem dX7_passMinutes_31 : decode cX7_passMinutes 31 = .ok (.putfield 70, 3) := by decide +kernel
theorem dX7_passMinutes_34 : decode cX7_passMinutes 34 = .ok (.aload_n 0, 1) := by decide +kernel
theorem dX7_passMinutes_35 : decode cX7_passMinutes 35 = .ok (.dup, 1) := by decide +kernel
theorem dX7_passMinutes_36 : decode cX7_passMinutes 36 = .ok (.getfield 240, 3) := by decide +kernel
theorem dX7_passMinutes_39 : decode cX7_passMinutes 39 = .ok (.iconst 1, 1) := by decide +kernel
theorem dX7_passMinutes_40 : decode cX7_passMinutes 40 = .ok (.iadd, 1) := by decide +kernel
theorem dX7_passMinutes_41 : decode cX7_passMinutes 41 = .ok (.putfield 240, 3) := by decide +kernel
theorem dX7_passMinutes_44 : decode cX7_passMinutes 44 = .ok (.return_, 1) := by decide +kernel
theorem dJ9_max_7cf53_0 : decode cJ9_max_7cf53 0 = .ok (.iload_n 0, 1) := by decide +kernel
theorem dJ9_max_7cf53_1 : decode cJ9_max_7cf53 1 = .ok (.iload_n 1, 1) := by decide +kernel
theorem dJ9_max_7cf53_2 : decode cJ9_max_7cf53 2 = .ok (.if_icmp .lt 7, 3) := by decide +kernel
theorem dJ9_max_7cf53_5 : decode cJ9_max_7cf53 5 = .ok (.iload_n 0, 1) := by decide +kernel
theorem dJ9_max_7cf53_6 : decode cJ9_max_7cf53 6 = .ok (.goto 4, 3) := by decide +kernel
theorem dJ9_max_7cf53_9 : decode cJ9_max_7cf53 9 = .ok (.iload_n 1, 1) := by decide +kernel
theorem dJ9_max_7cf53_10 : decode cJ9_max_7cf53 10 = .ok (.ireturn, 1) := by decide +kernel
theorem dJ9_min_7cf53_0 : decode cJ9_min_7cf53 0 = .ok (.iload_n 0, 1) := by decide +kernel
theorem dJ9_min_7cf53_1 : decode cJ9_min_7cf53 1 = .ok (.iload_n 1, 1) := by decide +kernel
theorem dJ9_min_7cf53_2 : decode cJ9_min_7cf53 2 = .ok (.if_icmp .gt 7, 3) := by decide +kernel
theorem dJ9_min_7cf53_5 : decode cJ9_min_7cf53 5 = .ok (.iload_n 0, 1) := by decide +kernel
theorem dJ9_min_7cf53_6 : decode cJ9_min_7cf53 6 = .ok (.goto 4, 3) := by decide +kernel
theorem dJ9_min_7cf53_9 : decode cJ9_min_7cf53 9 = .ok (.iload_n 1, 1) := by decide +kernel
theorem dJ9_min_7cf53_10 : decode cJ9_min_7cf53 10 = .ok (.ireturn, 1) := by decide +kernel
theorem dJ7_fill_d0a16_0 : decode cJ7_fill_d0a16 0 = .ok (.iconst 0, 1) := by decide +kernel
theorem dJ7_fill_d0a16_1 : decode cJ7_fill_d0a16 1 = .ok (.istore_n 3, 1) := by decide +kernel
theorem dJ7_fill_d0a16_2 : decode cJ7_fill_d0a16 2 = .ok (.aload_n 0, 1) := by decide +kernel
theorem dJ7_fill_d0a16_3 : decode cJ7_fill_d0a16 3 = .ok (.arraylength, 1) := by decide +kernel
theorem dJ7_fill_d0a16_4 : decode cJ7_fill_d0a16 4 = .ok (.istore 4, 2) := by decide +kernel
theorem dJ7_fill_d0a16_6 : decode cJ7_fill_d0a16 6 = .ok (.iload_n 3, 1) := by decide +kernel
theorem dJ7_fill_d0a16_7 : decode cJ7_fill_d0a16 7 = .ok (.iload 4, 2) := by decide +kernel
theorem dJ7_fill_d0a16_9 : decode cJ7_fill_d0a16 9 = .ok (.if_icmp .ge 13, 3) := by decide +kernel
theorem dJ7_fill_d0a16_12 : decode cJ7_fill_d0a16 12 = .ok (.aload_n 0, 1) := by decide +kernel
theorem dJ7_fill_d0a16_13 : decode cJ7_fill_d0a16 13 = .ok (.iload_n 3, 1) := by decide +kernel
theorem dJ7_fill_d0a16_14 : decode cJ7_fill_d0a16 14 = .ok (.lload_n 1, 1) := by decide +kernel
theorem dJ7_fill_d0a16_15 : decode cJ7_fill_d0a16 15 = .ok (.lastore, 1) := by decide +kernel
theorem dJ7_fill_d0a16_16 : decode cJ7_fill_d0a16 16 = .ok (.iinc 3 1, 3) := by decide +kernel
theorem dJ7_fill_d0a16_19 : decode cJ7_fill_d0a16 19 = .ok (.goto (-13), 3) := by decide +kernel
theorem dJ7_fill_d0a16_22 : decode cJ7_fill_d0a16 22 = .ok (.return_, 1) := by decide +kernel
theorem dJ7_fill_53178_0 : decode cJ7_fill_53178 0 = .ok (.iconst 0, 1) := by decide +kernel
theorem dJ7_fill_53178_1 : decode cJ7_fill_53178 1 = .ok (.istore_n 2, 1) := by decide +kernel
theorem dJ7_fill_53178_2 : decode cJ7_fill_53178 2 = .ok (.aload_n 0, 1) := by decide +kernel
theorem dJ7_fill_53178_3 : decode cJ7_fill_53178 3 = .ok (.arraylength, 1) := by decide +kernel
theorem dJ7_fill_53178_4 : decode cJ7_fill_53178 4 = .ok (.istore_n 3, 1) := by decide +kernel
theorem dJ7_fill_53178_5 : decode cJ7_fill_53178 5 = .ok (.iload_n 2, 1) := by decide +kernel
theorem dJ7_fill_53178_6 : decode cJ7_fill_53178 6 = .ok (.iload_n 3, 1) := by decide +kernel
theorem dJ7_fill_53178_7 : decode cJ7_fill_53178 7 = .ok (.if_icmp .ge 13, 3) := by decide +kernel
theorem dJ7_fill_53178_10 : decode cJ7_fill_53178 10 = .ok (.aload_n 0, 1) := by decide +kernel
theorem dJ7_fill_53178_11 : decode cJ7_fill_53178 11 = .ok (.iload_n 2, 1) := by decide +kernel
theorem dJ7_fill_53178_12 : decode cJ7_fill_53178 12 = .ok (.iload_n 1, 1) := by decide +kernel
theorem dJ7_fill_53178_13 : decode cJ7_fill_53178 13 = .ok (.iastore, 1) := by decide +kernel
theorem dJ7_fill_53178_14 : decode cJ7_fill_53178 14 = .ok (.iinc 2 1, 3) := by decide +kernel
theorem dJ7_fill_53178_17 : decode cJ7_fill_53178 17 = .ok (.goto (-12), 3) := by decide +kernel
theorem dJ7_fill_53178_20 : decode cJ7_fill_53178 20 = .ok (.return_, 1) := by decide +kernel
