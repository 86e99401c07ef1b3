theorem dX0_init_0 : decode cX0_init 0 = .ok (.aload_n 0, 1) := by decide +kernel
theorem dX0_init_1 : decode cX0_init 1 = .ok (.invokespecial 3, 3) := by decide +kernel
theorem dX0_init_4 : decode cX0_init 4 = .ok (.aload_n 0, 1) := by decide +kernel
theorem dX0_init_5 : decode cX0_init 5 = .ok (.bipush 12, 2) := by decide +kernel
theorem dX0_init_7 : decode cX0_init 7 = .ok (.newarray .int, 2) := by decide +kernel
theorem dX0_init_9 : decode cX0_init 9 = .ok (.putfield 9, 3) := by decide +kernel
theorem dX0_init_12 : decode cX0_init 12 = .ok (.aload_n 0, 1) := by decide +kernel
theorem dX0_init_13 : decode cX0_init 13 = .ok (.bipush 12, 2) := by decide +kernel
theorem dX0_init_15 : decode cX0_init 15 = .ok (.newarray .int, 2) := by decide +kernel
theorem dX0_init_17 : decode cX0_init 17 = .ok (.putfield 15, 3) := by decide +kernel
theorem dX0_init_20 : decode cX0_init 20 = .ok (.aload_n 0, 1) := by decide +kernel
theorem dX0_init_21 : decode cX0_init 21 = .ok (.bipush 12, 2) := by decide +kernel
theorem dX0_init_23 : decode cX0_init 23 = .ok (.newarray .int, 2) := by decide +kernel
theorem dX0_init_25 : decode cX0_init 25 = .ok (.putfield 18, 3) := by decide +kernel
theorem dX0_init_28 : decode cX0_init 28 = .ok (.aload_n 0, 1) := by decide +kernel
theorem dX0_init_29 : decode cX0_init 29 = .ok (.bipush 12, 2) := by decide +kernel
theorem dX0_init_31 : decode cX0_init 31 = .ok (.newarray .int, 2) := by decide +kernel
theorem dX0_init_33 : decode cX0_init 33 = .ok (.putfield 21, 3) := by decide +kernel
theorem dX0_init_36 : decode cX0_init 36 = .ok (.return_, 1) := by decide +kernel
theorem dX0_add_0 : decode cX0_add 0 = .ok (.aload_n 0, 1) := by decide +kernel
theorem dX0_add_1 : decode cX0_add 1 = .ok (.getfield 24, 3) := by decide +kernel
theorem dX0_add_4 : decode cX0_add 4 = .ok (.bipush 12, 2) := by decide +kernel
theorem dX0_add_6 : decode cX0_add 6 = .ok (.if_icmp .ge 54, 3) := by decide +kernel
theorem dX0_add_9 : decode cX0_add 9 = .ok (.aload_n 0, 1) := by decide +kernel
theorem dX0_add_10 : decode cX0_add 10 = .ok (.getfield 9, 3) := by decide +kernel
theorem dX0_add_13 : decode cX0_add 13 = .ok (.aload_n 0, 1) := by decide +kernel
theorem dX0_add_14 : decode cX0_add 14 = .ok (.getfield 24, 3) := by decide +kernel
theorem dX0_add_17 : decode cX0_add 17 = .ok (.iload_n 1, 1) := by decide +kernel
theorem dX0_add_18 : decode cX0_add 18 = .ok (.iastore, 1) := by decide +kernel
theorem dX0_add_19 : decode cX0_add 19 = .ok (.aload_n 0, 1) := by decide +kernel
theorem dX0_add_20 : decode cX0_add 20 = .ok (.getfield 15, 3) := by decide +kernel
theorem dX0_add_23 : decode cX0_add 23 = .ok (.aload_n 0, 1) := by decide +kernel
theorem dX0_add_24 : decode cX0_add 24 = .ok (.getfield 24, 3) := by decide +kernel
theorem dX0_add_27 : decode cX0_add 27 = .ok (.iload_n 2, 1) := by decide +kernel
theorem dX0_add_28 : decode cX0_add 28 = .ok (.iastore, 1) := by decide +kernel
theorem dX0_add_29 : decode cX0_add 29 = .ok (.aload_n 0, 1) := by decide +kernel
theorem dX0_add_30 : decode cX0_add 30 = .ok (.getfield 18, 3) := by decide +kernel
theorem dX0_add_33 : decode cX0_add 33 = .ok (.aload_n 0, 1) := by decide +kernel
theorem dX0_add_34 : decode cX0_add 34 = .ok (.getfield 24, 3) := by decide +kernel
theorem dX0_add_37 : decode cX0_add 37 = .ok (.iload_n 3, 1) := by decide +kernel
theorem dX0_add_38 : decode cX0_add 38 = .ok (.iastore, 1) := by decide +kernel
theorem dX0_add_39 : decode cX0_add 39 = .ok (.aload_n 0, 1) := by decide +kernel
theorem dX0_add_40 : decode cX0_add 40 = .ok (.getfield 21, 3) := by decide +kernel
theorem dX0_add_43 : decode cX0_add 43 = .ok (.aload_n 0, 1) := by decide +kernel
theorem dX0_add_44 : decode cX0_add 44 = .ok (.getfield 24, 3) := by decide +kernel
theorem dX0_add_47 : decode cX0_add 47 = .ok (.iload 4, 2) := by decide +kernel
theorem dX0_add_49 : decode cX0_add 49 = .ok (.iastore, 1) := by decide +kernel
theorem dX0_add_50 : decode cX0_add 50 = .ok (.aload_n 0, 1) := by decide +kernel
theorem dX0_add_51 : decode cX0_add 51 = .ok (.dup, 1) := by decide +kernel
theorem dX0_add_52 : decode cX0_add 52 = .ok (.getfield 24, 3) := by decide +kernel
theorem dX0_add_55 : decode cX0_add 55 = .ok (.iconst 1, 1) := by decide +kernel
theorem dX0_add_56 : decode cX0_add 56 = .ok (.iadd, 1) := by decide +kernel
theorem dX0_add_57 : decode cX0_add 57 = .ok (.putfield 24, 3) := by decide +kernel
theorem dX0_add_60 : decode cX0_add 60 = .ok (.return_, 1) := by decide +kernel
theorem dX0_isJust_0 : decode cX0_isJust 0 = .ok (.iload_n 1, 1) := by decide +kernel
theorem dX0_isJust_1 : decode cX0_isJust 1 = .ok (.ifCond .lt 21, 3) := by decide +kernel
theorem dX0_isJust_4 : decode cX0_isJust 4 = .ok (.iload_n 1, 1) := by decide +kernel
theorem dX0_isJust_5 : decode cX0_isJust 5 = .ok (.aload_n 0, 1) := by decide +kernel
theorem dX0_isJust_6 : decode cX0_isJust 6 = .ok (.getfield 24, 3) := by decide +kernel
theorem dX0_isJust_9 : decode cX0_isJust 9 = .ok (.if_icmp .ge 13, 3) := by decide +kernel
theorem dX0_isJust_12 : decode cX0_isJust 12 = .ok (.aload_n 0, 1) := by decide +kernel
theorem dX0_isJust_13 : decode cX0_isJust 13 = .ok (.getfield 9, 3) := by decide +kernel
theorem dX0_isJust_16 : decode cX0_isJust 16 = .ok (.iload_n 1, 1) := by decide +kernel
theorem dX0_isJust_17 : decode cX0_isJust 17 = .ok (.iaload, 1) := by decide +kernel
theorem dX0_isJust_18 : decode cX0_isJust 18 = .ok (.iload_n 2, 1) := by decide +kernel
theorem dX0_isJust_19 : decode cX0_isJust 19 = .ok (.if_icmp .eq 5, 3) := by decide +kernel
theorem dX0_isJust_22 : decode cX0_isJust 22 = .ok (.iconst 0, 1) := by decide +kernel
theorem dX0_isJust_23 : decode cX0_isJust 23 = .ok (.ireturn, 1) := by decide +kernel
theorem dX0_isJust_24 : decode cX0_isJust 24 = .ok (.aload_n 0, 1) := by decide +kernel
theorem dX0_isJust_25 : decode cX0_isJust 25 = .ok (.getfield 15, 3) := by decide +kernel
theorem dX0_isJust_28 : decode cX0_isJust 28 = .ok (.iload_n 1, 1) := by decide +kernel
theorem dX0_isJust_29 : decode cX0_isJust 29 = .ok (.iaload, 1) := by decide +kernel
theorem dX0_isJust_30 : decode cX0_isJust 30 = .ok (.iload_n 3, 1) := by decide +kernel
theorem dX0_isJust_31 : decode cX0_isJust 31 = .ok (.if_icmp .ne 18, 3) := by decide +kernel
theorem dX0_isJust_34 : decode cX0_isJust 34 = .ok (.aload_n 0, 1) := by decide +kernel
theorem dX0_isJust_35 : decode cX0_isJust 35 = .ok (.getfield 18, 3) := by decide +kernel
theorem dX0_isJust_38 : decode cX0_isJust 38 = .ok (.iload_n 1, 1) := by decide +kernel
theorem dX0_isJust_39 : decode cX0_isJust 39 = .ok (.iaload, 1) := by decide +kernel
theorem dX0_isJust_40 : decode cX0_isJust 40 = .ok (.iload 4, 2) := by decide +kernel
theorem dX0_isJust_42 : decode cX0_isJust 42 = .ok (.if_icmp .ne 7, 3) := by decide +kernel
theorem dX0_isJust_45 : decode cX0_isJust 45 = .ok (.iconst 1, 1) := by decide +kernel
theorem dX0_isJust_46 : decode cX0_isJust 46 = .ok (.goto 4, 3) := by decide +kernel
theorem dX0_isJust_49 : decode cX0_isJust 49 = .ok (.iconst 0, 1) := by decide +kernel
theorem dX0_isJust_50 : decode cX0_isJust 50 = .ok (.istore 6, 2) := by decide +kernel
theorem dX0_isJust_52 : decode cX0_isJust 52 = .ok (.iload_n 2, 1) := by decide +kernel
theorem dX0_isJust_53 : decode cX0_isJust 53 = .ok (.tableswitch 75 2 4 #[27, 27, 43], 27) := by decide +kernel
theorem dX0_isJust_80 : decode cX0_isJust 80 = .ok (.aload_n 0, 1) := by decide +kernel
theorem dX0_isJust_81 : decode cX0_isJust 81 = .ok (.getfield 15, 3) := by decide +kernel
theorem dX0_isJust_84 : decode cX0_isJust 84 = .ok (.iload_n 1, 1) := by decide +kernel
theorem dX0_isJust_85 : decode cX0_isJust 85 = .ok (.iaload, 1) := by decide +kernel
theorem dX0_isJust_86 : decode cX0_isJust 86 = .ok (.iload_n 3, 1) := by decide +kernel
theorem dX0_isJust_87 : decode cX0_isJust 87 = .ok (.if_icmp .ne 7, 3) := by decide +kernel
theorem dX0_isJust_90 : decode cX0_isJust 90 = .ok (.iconst 1, 1) := by decide +kernel
theorem dX0_isJust_91 : decode cX0_isJust 91 = .ok (.goto 4, 3) := by decide +kernel
theorem dX0_isJust_94 : decode cX0_isJust 94 = .ok (.iconst 0, 1) := by decide +kernel
theorem dX0_isJust_95 : decode cX0_isJust 95 = .ok (.ireturn, 1) := by decide +kernel
theorem dX0_isJust_96 : decode cX0_isJust 96 = .ok (.iload 6, 2) := by decide +kernel
theorem dX0_isJust_98 : decode cX0_isJust 98 = .ok (.ifCond .ne 24, 3) := by decide +kernel
theorem dX0_isJust_101 : decode cX0_isJust 101 = .ok (.aload_n 0, 1) := by decide +kernel
theorem dX0_isJust_102 : decode cX0_isJust 102 = .ok (.getfield 15, 3) := by decide +kernel
theorem dX0_isJust_105 : decode cX0_isJust 105 = .ok (.iload_n 1, 1) := by decide +kernel
theorem dX0_isJust_106 : decode cX0_isJust 106 = .ok (.iaload, 1) := by decide +kernel
theorem dX0_isJust_107 : decode cX0_isJust 107 = .ok (.iload 4, 2) := by decide +kernel
theorem dX0_isJust_109 : decode cX0_isJust 109 = .ok (.if_icmp .ne 17, 3) := by decide +kernel
theorem dX0_isJust_112 : decode cX0_isJust 112 = .ok (.aload_n 0, 1) := by decide +kernel
theorem dX0_isJust_113 : decode cX0_isJust 113 = .ok (.getfield 18, 3) := by decide +kernel
theorem dX0_isJust_116 : decode cX0_isJust 116 = .ok (.iload_n 1, 1) := by decide +kernel
theorem dX0_isJust_117 : decode cX0_isJust 117 = .ok (.iaload, 1) := by decide +kernel
theorem dX0_isJust_118 : decode cX0_isJust 118 = .ok (.iload_n 3, 1) := by decide +kernel
theorem dX0_isJust_119 : decode cX0_isJust 119 = .ok (.if_icmp .ne 7, 3) := by decide +kernel
theorem dX0_isJust_122 : decode cX0_isJust 122 = .ok (.iconst 1, 1) := by decide +kernel
theorem dX0_isJust_123 : decode cX0_isJust 123 = .ok (.goto 4, 3) := by decide +kernel
theorem dX0_isJust_126 : decode cX0_isJust 126 = .ok (.iconst 0, 1) := by decide +kernel
theorem dX0_isJust_127 : decode cX0_isJust 127 = .ok (.ireturn, 1) := by decide +kernel
theorem dX0_isJust_128 : decode cX0_isJust 128 = .ok (.iload 6, 2) := by decide +kernel
theorem dX0_isJust_130 : decode cX0_isJust 130 = .ok (.ifCond .eq 18, 3) := by decide +kernel
theorem dX0_isJust_133 : decode cX0_isJust 133 = .ok (.aload_n 0, 1) := by decide +kernel
theorem dX0_isJust_134 : decode cX0_isJust 134 = .ok (.getfield 21, 3) := by decide +kernel
theorem dX0_isJust_137 : decode cX0_isJust 137 = .ok (.iload_n 1, 1) := by decide +kernel
theorem dX0_isJust_138 : decode cX0_isJust 138 = .ok (.iaload, 1) := by decide +kernel
theorem dX0_isJust_139 : decode cX0_isJust 139 = .ok (.iload 5, 2) := by decide +kernel
theorem dX0_isJust_141 : decode cX0_isJust 141 = .ok (.if_icmp .ne 7, 3) := by decide +kernel
theorem dX0_isJust_144 : decode cX0_isJust 144 = .ok (.iconst 1, 1) := by decide +kernel
theorem dX0_isJust_145 : decode cX0_isJust 145 = .ok (.goto 4, 3) := by decide +kernel
theorem dX0_isJust_148 : decode cX0_isJust 148 = .ok (.iconst 0, 1) := by decide +kernel
theorem dX0_isJust_149 : decode cX0_isJust 149 = .ok (.ireturn, 1) := by decide +kernel
theorem dX0_listenersFrom_0 : decode cX0_listenersFrom 0 = .ok (.iconst 0, 1) := by decide +kernel
theorem dX0_listenersFrom_1 : decode cX0_listenersFrom 1 = .ok (.istore_n 3, 1) := by decide +kernel
theorem dX0_listenersFrom_2 : decode cX0_listenersFrom 2 = .ok (.iload_n 1, 1) := by decide +kernel
theorem dX0_listenersFrom_3 : decode cX0_listenersFrom 3 = .ok (.iconst 0, 1) := by decide +kernel
theorem dX0_listenersFrom_4 : decode cX0_listenersFrom 4 = .ok (.invokestatic 28, 3) := by decide +kernel
theorem dX0_listenersFrom_7 : decode cX0_listenersFrom 7 = .ok (.istore 4, 2) := by decide +kernel
theorem dX0_listenersFrom_9 : decode cX0_listenersFrom 9 = .ok (.iload 4, 2) := by decide +kernel
theorem dX0_listenersFrom_11 : decode cX0_listenersFrom 11 = .ok (.aload_n 0, 1) := by decide +kernel
theorem dX0_listenersFrom_12 : decode cX0_listenersFrom 12 = .ok (.getfield 24, 3) := by decide +kernel
theorem dX0_listenersFrom_15 : decode cX0_listenersFrom 15 = .ok (.if_icmp .ge 42, 3) := by decide +kernel
theorem dX0_listenersFrom_18 : decode cX0_listenersFrom 18 = .ok (.aload_n 0, 1) := by decide +kernel
theorem dX0_listenersFrom_19 : decode cX0_listenersFrom 19 = .ok (.getfield 9, 3) := by decide +kernel
theorem dX0_listenersFrom_22 : decode cX0_listenersFrom 22 = .ok (.iload 4, 2) := by decide +kernel
theorem dX0_listenersFrom_24 : decode cX0_listenersFrom 24 = .ok (.iaload, 1) := by decide +kernel
theorem dX0_listenersFrom_25 : decode cX0_listenersFrom 25 = .ok (.ifCond .ne 26, 3) := by decide +kernel
theorem dX0_listenersFrom_28 : decode cX0_listenersFrom 28 = .ok (.aload_n 0, 1) := by decide +kernel
theorem dX0_listenersFrom_29 : decode cX0_listenersFrom 29 = .ok (.getfield 21, 3) := by decide +kernel
theorem dX0_listenersFrom_32 : decode cX0_listenersFrom 32 = .ok (.iload 4, 2) := by decide +kernel
theorem dX0_listenersFrom_34 : decode cX0_listenersFrom 34 = .ok (.iaload, 1) := by decide +kernel
theorem dX0_listenersFrom_35 : decode cX0_listenersFrom 35 = .ok (.iload_n 2, 1) := by decide +kernel
theorem dX0_listenersFrom_36 : decode cX0_listenersFrom 36 = .ok (.if_icmp .ne 15, 3) := by decide +kernel
theorem dX0_listenersFrom_39 : decode cX0_listenersFrom 39 = .ok (.iload_n 3, 1) := by decide +kernel
theorem dX0_listenersFrom_40 : decode cX0_listenersFrom 40 = .ok (.iconst 1, 1) := by decide +kernel
theorem dX0_listenersFrom_41 : decode cX0_listenersFrom 41 = .ok (.aload_n 0, 1) := by decide +kernel
theorem dX0_listenersFrom_42 : decode cX0_listenersFrom 42 = .ok (.getfield 18, 3) := by decide +kernel
theorem dX0_listenersFrom_45 : decode cX0_listenersFrom 45 = .ok (.iload 4, 2) := by decide +kernel
theorem dX0_listenersFrom_47 : decode cX0_listenersFrom 47 = .ok (.iaload, 1) := by decide +kernel
theorem dX0_listenersFrom_48 : decode cX0_listenersFrom 48 = .ok (.ishl, 1) := by decide +kernel
theorem dX0_listenersFrom_49 : decode cX0_listenersFrom 49 = .ok (.ior, 1) := by decide +kernel
theorem dX0_listenersFrom_50 : decode cX0_listenersFrom 50 = .ok (.istore_n 3, 1) := by decide +kernel
theorem dX0_listenersFrom_51 : decode cX0_listenersFrom 51 = .ok (.iinc 4 1, 3) := by decide +kernel
theorem dX0_listenersFrom_54 : decode cX0_listenersFrom 54 = .ok (.goto (-45), 3) := by decide +kernel
theorem dX0_listenersFrom_57 : decode cX0_listenersFrom 57 = .ok (.iload_n 3, 1) := by decide +kernel
theorem dX0_listenersFrom_58 : decode cX0_listenersFrom 58 = .ok (.ireturn, 1) := by decide +kernel
theorem dX1_init_0 : decode cX1_init 0 = .ok (.aload_n 0, 1) := by decide +kernel
theorem dX1_init_1 : decode cX1_init 1 = .ok (.invokespecial 3, 3) := by decide +kernel
theorem dX1_init_4 : decode cX1_init 4 = .ok (.aload_n 0, 1) := by decide +kernel
theorem dX1_init_5 : decode cX1_init 5 = .ok (.bipush 6, 2) := by decide +kernel
theorem dX1_init_7 : decode cX1_init 7 = .ok (.newarray .int, 2) := by decide +kernel
theorem dX1_init_9 : decode cX1_init 9 = .ok (.putfield 9, 3) := by decide +kernel
theorem dX1_init_12 : decode cX1_init 12 = .ok (.aload_n 0, 1) := by decide +kernel
theorem dX1_init_13 : decode cX1_init 13 = .ok (.bipush 6, 2) := by decide +kernel
theorem dX1_init_15 : decode cX1_init 15 = .ok (.newarray .int, 2) := by decide +kernel
theorem dX1_init_17 : decode cX1_init 17 = .ok (.putfield 15, 3) := by decide +kernel
theorem dX1_init_20 : decode cX1_init 20 = .ok (.aload_n 0, 1) := by decide +kernel
theorem dX1_init_21 : decode cX1_init 21 = .ok (.bipush 6, 2) := by decide +kernel
theorem dX1_init_23 : decode cX1_init 23 = .ok (.newarray .int, 2) := by decide +kernel
theorem dX1_init_25 : decode cX1_init 25 = .ok (.putfield 18, 3) := by decide +kernel
theorem dX1_init_28 : decode cX1_init 28 = .ok (.aload_n 0, 1) := by decide +kernel
theorem dX1_init_29 : decode cX1_init 29 = .ok (.bipush 6, 2) := by decide +kernel
theorem dX1_init_31 : decode cX1_init 31 = .ok (.newarray .int, 2) := by decide +kernel
theorem dX1_init_33 : decode cX1_init 33 = .ok (.putfield 21, 3) := by decide +kernel
theorem dX1_init_36 : decode cX1_init 36 = .ok (.return_, 1) := by decide +kernel
theorem dX1_add_0 : decode cX1_add 0 = .ok (.aload_n 0, 1) := by decide +kernel
theorem dX1_add_1 : decode cX1_add 1 = .ok (.getfield 24, 3) := by decide +kernel
theorem dX1_add_4 : decode cX1_add 4 = .ok (.bipush 6, 2) := by decide +kernel
theorem dX1_add_6 : decode cX1_add 6 = .ok (.if_icmp .lt 5, 3) := by decide +kernel
theorem dX1_add_9 : decode cX1_add 9 = .ok (.iconst (-1), 1) := by decide +kernel
theorem dX1_add_10 : decode cX1_add 10 = .ok (.ireturn, 1) := by decide +kernel
theorem dX1_add_11 : decode cX1_add 11 = .ok (.aload_n 0, 1) := by decide +kernel
theorem dX1_add_12 : decode cX1_add 12 = .ok (.getfield 9, 3) := by decide +kernel
theorem dX1_add_15 : decode cX1_add 15 = .ok (.aload_n 0, 1) := by decide +kernel
theorem dX1_add_16 : decode cX1_add 16 = .ok (.getfield 24, 3) := by decide +kernel
theorem dX1_add_19 : decode cX1_add 19 = .ok (.iload_n 1, 1) := by decide +kernel
theorem dX1_add_20 : decode cX1_add 20 = .ok (.iastore, 1) := by decide +kernel
theorem dX1_add_21 : decode cX1_add 21 = .ok (.aload_n 0, 1) := by decide +kernel
theorem dX1_add_22 : decode cX1_add 22 = .ok (.getfield 15, 3) := by decide +kernel
theorem dX1_add_25 : decode cX1_add 25 = .ok (.aload_n 0, 1) := by decide +kernel
theorem dX1_add_26 : decode cX1_add 26 = .ok (.getfield 24, 3) := by decide +kernel
theorem dX1_add_29 : decode cX1_add 29 = .ok (.iload_n 2, 1) := by decide +kernel
theorem dX1_add_30 : decode cX1_add 30 = .ok (.iastore, 1) := by decide +kernel
theorem dX1_add_31 : decode cX1_add 31 = .ok (.aload_n 0, 1) := by decide +kernel
theorem dX1_add_32 : decode cX1_add 32 = .ok (.getfield 18, 3) := by decide +kernel
theorem dX1_add_35 : decode cX1_add 35 = .ok (.aload_n 0, 1) := by decide +kernel
theorem dX1_add_36 : decode cX1_add 36 = .ok (.getfield 24, 3) := by decide +kernel
theorem dX1_add_39 : decode cX1_add 39 = .ok (.iload_n 3, 1) := by decide +kernel
theorem dX1_add_40 : decode cX1_add 40 = .ok (.iastore, 1) := by decide +kernel
theorem dX1_add_41 : decode cX1_add 41 = .ok (.aload_n 0, 1) := by decide +kernel
theorem dX1_add_42 : decode cX1_add 42 = .ok (.dup, 1) := by decide +kernel
theorem dX1_add_43 : decode cX1_add 43 = .ok (.getfield 24, 3) := by decide +kernel
theorem dX1_add_46 : decode cX1_add 46 = .ok (.dup_x1, 1) := by decide +kernel
theorem dX1_add_47 : decode cX1_add 47 = .ok (.iconst 1, 1) := by decide +kernel
theorem dX1_add_48 : decode cX1_add 48 = .ok (.iadd, 1) := by decide +kernel
theorem dX1_add_49 : decode cX1_add 49 = .ok (.putfield 24, 3) := by decide +kernel
theorem dX1_add_52 : decode cX1_add 52 = .ok (.ireturn, 1) := by decide +kernel
set_option maxRecDepth 20000 in
theorem ggX1_beFresh_J7_fill_53178 : GoodIn wsX1_beFresh wsJ7_fill_53178 := goodIn_r _ [5] (by decide +kernel) (by decide +kernel)
set_option maxRecDepth 20000 in
theorem gX1_beFresh_J7_fill_53178 : GoodIn wsX1_beFresh (va_wsS RX1 28 yJ7_fill_53178 wsJ7_fill_53178) := goodIn_app (goodIn_of _ (by decide +kernel)) ggX1_beFresh_J7_fill_53178
theorem dX1_beFresh_0 : decode cX1_beFresh 0 = .ok (.aload_n 0, 1) := by decide +kernel
theorem dX1_beFresh_1 : decode cX1_beFresh 1 = .ok (.getfield 21, 3) := by decide +kernel
theorem dX1_beFresh_4 : decode cX1_beFresh 4 = .ok (.iconst 0, 1) := by decide +kernel
theorem dX1_beFresh_5 : decode cX1_beFresh 5 = .ok (.invokestatic 28, 3) := by decide +kernel
theorem dX1_beFresh_8 : decode cX1_beFresh 8 = .ok (.return_, 1) := by decide +kernel
theorem dX1_laughsNow_0 : decode cX1_laughsNow 0 = .ok (.aload_n 0, 1) := by decide +kernel
theorem dX1_laughsNow_1 : decode cX1_laughsNow 1 = .ok (.getfield 15, 3) := by decide +kernel
theorem dX1_laughsNow_4 : decode cX1_laughsNow 4 = .ok (.iload_n 1, 1) := by decide +kernel
theorem dX1_laughsNow_5 : decode cX1_laughsNow 5 = .ok (.iaload, 1) := by decide +kernel
theorem dX1_laughsNow_6 : decode cX1_laughsNow 6 = .ok (.aload_n 0, 1) := by decide +kernel
theorem dX1_laughsNow_7 : decode cX1_laughsNow 7 = .ok (.getfield 21, 3) := by decide +kernel
theorem dX1_laughsNow_10 : decode cX1_laughsNow 10 = .ok (.iload_n 1, 1) := by decide +kernel
theorem dX1_laughsNow_11 : decode cX1_laughsNow 11 = .ok (.iaload, 1) := by decide +kernel
theorem dX1_laughsNow_12 : decode cX1_laughsNow 12 = .ok (.bipush 31, 2) := by decide +kernel
theorem dX1_laughsNow_14 : decode cX1_laughsNow 14 = .ok (.invokestatic 34, 3) := by decide +kernel
theorem dX1_laughsNow_17 : decode cX1_laughsNow 17 = .ok (.ishr, 1) := by decide +kernel
theorem dX1_laughsNow_18 : decode cX1_laughsNow 18 = .ok (.ireturn, 1) := by decide +kernel
set_option maxRecDepth 20000 in
theorem ggX2_init_J7_fill_53178 : GoodIn wsX2_init wsJ7_fill_53178 := goodIn_r _ [10] (by decide +kernel) (by decide +kernel)
set_option maxRecDepth 20000 in
theorem gX2_init_J7_fill_53178 : GoodIn wsX2_init (va_wsS RX2 18 yJ7_fill_53178 wsJ7_fill_53178) := goodIn_app (goodIn_of _ (by decide +kernel)) ggX2_init_J7_fill_53178
theorem dX2_init_0 : decode cX2_init 0 = .ok (.aload_n 0, 1) := by decide +kernel
theorem dX2_init_1 : decode cX2_init 1 = .ok (.invokespecial 3, 3) := by decide +kernel
theorem dX2_init_4 : decode cX2_init 4 = .ok (.aload_n 0, 1) := by decide +kernel
theorem dX2_init_5 : decode cX2_init 5 = .ok (.iconst 4, 1) := by decide +kernel
theorem dX2_init_6 : decode cX2_init 6 = .ok (.newarray .int, 2) := by decide +kernel
theorem dX2_init_8 : decode cX2_init 8 = .ok (.putfield 9, 3) := by decide +kernel
theorem dX2_init_11 : decode cX2_init 11 = .ok (.aload_n 0, 1) := by decide +kernel
theorem dX2_init_12 : decode cX2_init 12 = .ok (.iconst 4, 1) := by decide +kernel
theorem dX2_init_13 : decode cX2_init 13 = .ok (.newarray .int, 2) := by decide +kernel
theorem dX2_init_15 : decode cX2_init 15 = .ok (.putfield 15, 3) := by decide +kernel
theorem dX2_init_18 : decode cX2_init 18 = .ok (.aload_n 0, 1) := by decide +kernel
theorem dX2_init_19 : decode cX2_init 19 = .ok (.getfield 15, 3) := by decide +kernel
theorem dX2_init_22 : decode cX2_init 22 = .ok (.iconst (-1), 1) := by decide +kernel
theorem dX2_init_23 : decode cX2_init 23 = .ok (.invokestatic 18, 3) := by decide +kernel
theorem dX2_init_26 : decode cX2_init 26 = .ok (.return_, 1) := by decide +kernel
theorem dX2_copyFrom_0 : decode cX2_copyFrom 0 = .ok (.aload_n 1, 1) := by decide +kernel
theorem dX2_copyFrom_1 : decode cX2_copyFrom 1 = .ok (.getfield 9, 3) := by decide +kernel
theorem dX2_copyFrom_4 : decode cX2_copyFrom 4 = .ok (.iconst 0, 1) := by decide +kernel
theorem dX2_copyFrom_5 : decode cX2_copyFrom 5 = .ok (.aload_n 0, 1) := by decide +kernel
theorem dX2_copyFrom_6 : decode cX2_copyFrom 6 = .ok (.getfield 9, 3) := by decide +kernel
theorem dX2_copyFrom_9 : decode cX2_copyFrom 9 = .ok (.iconst 0, 1) := by decide +kernel
theorem dX2_copyFrom_10 : decode cX2_copyFrom 10 = .ok (.iconst 4, 1) := by decide +kernel
theorem dX2_copyFrom_11 : decode cX2_copyFrom 11 = .ok (.invokestatic 24, 3) := by decide +kernel
theorem dX2_copyFrom_14 : decode cX2_copyFrom 14 = .ok (.aload_n 1, 1) := by decide +kernel
theorem dX2_copyFrom_15 : decode cX2_copyFrom 15 = .ok (.getfield 15, 3) := by decide +kernel
theorem dX2_copyFrom_18 : decode cX2_copyFrom 18 = .ok (.iconst 0, 1) := by decide +kernel
theorem dX2_copyFrom_19 : decode cX2_copyFrom 19 = .ok (.aload_n 0, 1) := by decide +kernel
theorem dX2_copyFrom_20 : decode cX2_copyFrom 20 = .ok (.getfield 15, 3) := by decide +kernel
theorem dX2_copyFrom_23 : decode cX2_copyFrom 23 = .ok (.iconst 0, 1) := by decide +kernel
theorem dX2_copyFrom_24 : decode cX2_copyFrom 24 = .ok (.iconst 4, 1) := by decide +kernel
theorem dX2_copyFrom_25 : decode cX2_copyFrom 25 = .ok (.invokestatic 24, 3) := by decide +kernel
theorem dX2_copyFrom_28 : decode cX2_copyFrom 28 = .ok (.return_, 1) := by decide +kernel
set_option maxRecDepth 20000 in
theorem ggX2_isKnower_X7_isIn : GoodIn wsX2_isKnower wsX7_isIn := goodIn_r _ [4] (by decide +kernel) (by decide +kernel)
set_option maxRecDepth 20000 in
theorem gX2_isKnower_X7_isIn_n30 : GoodIn wsX2_isKnower (wsX7_isIn) := ggX2_isKnower_X7_isIn
theorem dX2_isKnower_0 : decode cX2_isKnower 0 = .ok (.aload_n 0, 1) := by decide +kernel
theorem dX2_isKnower_1 : decode cX2_isKnower 1 = .ok (.getfield 9, 3) := by decide +kernel
theorem dX2_isKnower_4 : decode cX2_isKnower 4 = .ok (.iload_n 2, 1) := by decide +kernel
theorem dX2_isKnower_5 : decode cX2_isKnower 5 = .ok (.iaload, 1) := by decide +kernel
theorem dX2_isKnower_6 : decode cX2_isKnower 6 = .ok (.iload_n 1, 1) := by decide +kernel
theorem dX2_isKnower_7 : decode cX2_isKnower 7 = .ok (.invokestatic 30, 3) := by decide +kernel
theorem dX2_isKnower_10 : decode cX2_isKnower 10 = .ok (.ireturn, 1) := by decide +kernel
theorem dX2_learn_0 : decode cX2_learn 0 = .ok (.aload_n 0, 1) := by decide +kernel
theorem dX2_learn_1 : decode cX2_learn 1 = .ok (.getfield 9, 3) := by decide +kernel
theorem dX2_learn_4 : decode cX2_learn 4 = .ok (.iload_n 2, 1) := by decide +kernel
theorem dX2_learn_5 : decode cX2_learn 5 = .ok (.dup2, 1) := by decide +kernel
theorem dX2_learn_6 : decode cX2_learn 6 = .ok (.iaload, 1) := by decide +kernel
theorem dX2_learn_7 : decode cX2_learn 7 = .ok (.iconst 1, 1) := by decide +kernel
theorem dX2_learn_8 : decode cX2_learn 8 = .ok (.iload_n 1, 1) := by decide +kernel
theorem dX2_learn_9 : decode cX2_learn 9 = .ok (.ishl, 1) := by decide +kernel
theorem dX2_learn_10 : decode cX2_learn 10 = .ok (.ior, 1) := by decide +kernel
theorem dX2_learn_11 : decode cX2_learn 11 = .ok (.iastore, 1) := by decide +kernel
theorem dX2_learn_12 : decode cX2_learn 12 = .ok (.return_, 1) := by decide +kernel
theorem dX2_forget_0 : decode cX2_forget 0 = .ok (.aload_n 0, 1) := by decide +kernel
theorem dX2_forget_1 : decode cX2_forget 1 = .ok (.getfield 9, 3) := by decide +kernel
theorem dX2_forget_4 : decode cX2_forget 4 = .ok (.iload_n 2, 1) := by decide +kernel
theorem dX2_forget_5 : decode cX2_forget 5 = .ok (.dup2, 1) := by decide +kernel
theorem dX2_forget_6 : decode cX2_forget 6 = .ok (.iaload, 1) := by decide +kernel
theorem dX2_forget_7 : decode cX2_forget 7 = .ok (.iconst 1, 1) := by decide +kernel
theorem dX2_forget_8 : decode cX2_forget 8 = .ok (.iload_n 1, 1) := by decide +kernel
theorem dX2_forget_9 : decode cX2_forget 9 = .ok (.ishl, 1) := by decide +kernel
theorem dX2_forget_10 : decode cX2_forget 10 = .ok (.iconst (-1), 1) := by decide +kernel
theorem dX2_forget_11 : decode cX2_forget 11 = .ok (.ixor, 1) := by decide +kernel
theorem dX2_forget_12 : decode cX2_forget 12 = .ok (.iand, 1) := by decide +kernel
theorem dX2_forget_13 : decode cX2_forget 13 = .ok (.iastore, 1) := by decide +kernel
theorem dX2_forget_14 : decode cX2_forget 14 = .ok (.return_, 1) := by decide +kernel
set_option maxRecDepth 20000 in
theorem ggX3_init_X2_init : GoodIn wsX3_init wsX2_init := goodIn_r _ [12, 13, 2, 3, 14, 15, 16, 17, 18, 19, 20, 21, 22] (by decide +kernel) (by decide +kernel)
set_option maxRecDepth 20000 in
theorem gX3_init_X2_init : GoodIn wsX3_init (wsX2_init) := ggX3_init_X2_init
theorem dX3_init_0 : decode cX3_init 0 = .ok (.aload_n 0, 1) := by decide +kernel
theorem dX3_init_1 : decode cX3_init 1 = .ok (.invokespecial 3, 3) := by decide +kernel
theorem dX3_init_4 : decode cX3_init 4 = .ok (.aload_n 0, 1) := by decide +kernel
theorem dX3_init_5 : decode cX3_init 5 = .ok (.new 9, 3) := by decide +kernel
theorem dX3_init_8 : decode cX3_init 8 = .ok (.dup, 1) := by decide +kernel
theorem dX3_init_9 : decode cX3_init 9 = .ok (.invokespecial 11, 3) := by decide +kernel
theorem dX3_init_12 : decode cX3_init 12 = .ok (.putfield 12, 3) := by decide +kernel
theorem dX3_init_15 : decode cX3_init 15 = .ok (.aload_n 0, 1) := by decide +kernel
theorem dX3_init_16 : decode cX3_init 16 = .ok (.aload_n 1, 1) := by decide +kernel
theorem dX3_init_17 : decode cX3_init 17 = .ok (.putfield 18, 3) := by decide +kernel
theorem dX3_init_20 : decode cX3_init 20 = .ok (.aload_n 0, 1) := by decide +kernel
theorem dX3_init_21 : decode cX3_init 21 = .ok (.aload_n 2, 1) := by decide +kernel
theorem dX3_init_22 : decode cX3_init 22 = .ok (.putfield 22, 3) := by decide +kernel
theorem dX3_init_25 : decode cX3_init 25 = .ok (.return_, 1) := by decide +kernel
set_option maxRecDepth 20000 in
theorem ggX3_canBeClosed_X2_copyFrom : GoodIn wsX3_canBeClosed wsX2_copyFrom := goodIn_r _ [14, 15, 16, 17, 18, 19, 20, 79, 80] (by decide +kernel) (by decide +kernel)
set_option maxRecDepth 20000 in
theorem gX3_canBeClosed_X2_copyFrom : GoodIn wsX3_canBeClosed (wsV RX3 31 RX2 yX2_copyFrom wsX2_copyFrom) := goodIn_app (goodIn_of _ (by decide +kernel)) ggX3_canBeClosed_X2_copyFrom
set_option maxRecDepth 20000 in
theorem ggX3_canBeClosed_X3_canBeDone : GoodIn wsX3_canBeClosed wsX3_canBeDone := goodIn_r _ [25, 2, 26, 8, 27, 28, 29, 30, 31, 32, 33, 34, 35, 24, 36, 37, 38, 1, 39, 40, 41, 13, 42, 15, 43, 44, 45, 46, 47, 48, 49, 50, 51, 52, 53, 5, 6, 7, 54, 55, 56, 57, 58, 59, 60, 61, 62, 63, 64, 65, 66, 67, 68, 69, 70, 71, 72, 73, 74, 75, 76, 77, 78, 79, 80] (by decide +kernel) (by decide +kernel)
set_option maxRecDepth 20000 in
theorem gX3_canBeClosed_X3_canBeDone : GoodIn wsX3_canBeClosed (wsV RX3 47 RX3 yX3_canBeDone wsX3_canBeDone) := goodIn_app (goodIn_of _ (by decide +kernel)) ggX3_canBeClosed_X3_canBeDone
theorem dX3_canBeClosed_0 : decode cX3_canBeClosed 0 = .ok (.aload_n 0, 1) := by decide +kernel
theorem dX3_canBeClosed_1 : decode cX3_canBeClosed 1 = .ok (.getfield 12, 3) := by decide +kernel
theorem dX3_canBeClosed_4 : decode cX3_canBeClosed 4 = .ok (.aload_n 0, 1) := by decide +kernel
theorem dX3_canBeClosed_5 : decode cX3_canBeClosed 5 = .ok (.getfield 22, 3) := by decide +kernel
theorem dX3_canBeClosed_8 : decode cX3_canBeClosed 8 = .ok (.getfield 26, 3) := by decide +kernel
theorem dX3_canBeClosed_11 : decode cX3_canBeClosed 11 = .ok (.invokevirtual 31, 3) := by decide +kernel
theorem dX3_canBeClosed_14 : decode cX3_canBeClosed 14 = .ok (.iload_n 1, 1) := by decide +kernel
theorem dX3_canBeClosed_15 : decode cX3_canBeClosed 15 = .ok (.iconst 0, 1) := by decide +kernel
theorem dX3_canBeClosed_16 : decode cX3_canBeClosed 16 = .ok (.invokestatic 35, 3) := by decide +kernel
theorem dX3_canBeClosed_19 : decode cX3_canBeClosed 19 = .ok (.istore_n 2, 1) := by decide +kernel
theorem dX3_canBeClosed_20 : decode cX3_canBeClosed 20 = .ok (.iload_n 2, 1) := by decide +kernel
theorem dX3_canBeClosed_21 : decode cX3_canBeClosed 21 = .ok (.aload_n 0, 1) := by decide +kernel
theorem dX3_canBeClosed_22 : decode cX3_canBeClosed 22 = .ok (.getfield 18, 3) := by decide +kernel
theorem dX3_canBeClosed_25 : decode cX3_canBeClosed 25 = .ok (.getfield 41, 3) := by decide +kernel
theorem dX3_canBeClosed_28 : decode cX3_canBeClosed 28 = .ok (.if_icmp .ge 19, 3) := by decide +kernel
theorem dX3_canBeClosed_31 : decode cX3_canBeClosed 31 = .ok (.aload_n 0, 1) := by decide +kernel
theorem dX3_canBeClosed_32 : decode cX3_canBeClosed 32 = .ok (.iload_n 2, 1) := by decide +kernel
theorem dX3_canBeClosed_33 : decode cX3_canBeClosed 33 = .ok (.invokevirtual 47, 3) := by decide +kernel
theorem dX3_canBeClosed_36 : decode cX3_canBeClosed 36 = .ok (.ifCond .ne 5, 3) := by decide +kernel
theorem dX3_canBeClosed_39 : decode cX3_canBeClosed 39 = .ok (.iconst 0, 1) := by decide +kernel
theorem dX3_canBeClosed_40 : decode cX3_canBeClosed 40 = .ok (.ireturn, 1) := by decide +kernel
theorem dX3_canBeClosed_41 : decode cX3_canBeClosed 41 = .ok (.iinc 2 1, 3) := by decide +kernel
theorem dX3_canBeClosed_44 : decode cX3_canBeClosed 44 = .ok (.goto (-24), 3) := by decide +kernel
theorem dX3_canBeClosed_47 : decode cX3_canBeClosed 47 = .ok (.iconst 1, 1) := by decide +kernel
theorem dX3_canBeClosed_48 : decode cX3_canBeClosed 48 = .ok (.ireturn, 1) := by decide +kernel
set_option maxRecDepth 20000 in
theorem ggX3_canBeDone_X7_isIn : GoodIn wsX3_canBeDone wsX7_isIn := goodIn_r _ [9] (by decide +kernel) (by decide +kernel)
set_option maxRecDepth 20000 in
theorem gX3_canBeDone_X7_isIn_n58 : GoodIn wsX3_canBeDone (wsX7_isIn) := ggX3_canBeDone_X7_isIn
set_option maxRecDepth 20000 in
theorem ggX3_canBeDone_X3_canBeTold : GoodIn wsX3_canBeDone wsX3_canBeTold := goodIn_r _ [14, 3, 4, 6, 15, 1, 16, 17, 7, 8, 9, 18, 19, 20, 21, 22, 23, 24, 25, 26, 13, 27, 28, 2, 29, 30, 31, 32, 33, 34, 35, 36, 37, 38, 39, 40, 41, 42, 43, 44, 45, 51, 52, 53, 58, 59, 60, 61, 62, 54, 55, 56, 57, 63, 64] (by decide +kernel) (by decide +kernel)
set_option maxRecDepth 20000 in
theorem gX3_canBeDone_X3_canBeTold : GoodIn wsX3_canBeDone (wsV RX3 68 RX3 yX3_canBeTold wsX3_canBeTold) := goodIn_app (goodIn_of _ (by decide +kernel)) ggX3_canBeDone_X3_canBeTold
set_option maxRecDepth 20000 in
theorem ggX3_canBeDone_X3_canBeGiven : GoodIn wsX3_canBeDone wsX3_canBeGiven := goodIn_r _ [49, 3, 15, 17, 50, 1, 2, 6, 7, 8, 9, 51, 52, 53, 58, 59, 60, 61, 62, 63, 64, 54, 55, 56, 57] (by decide +kernel) (by decide +kernel)
set_option maxRecDepth 20000 in
theorem gX3_canBeDone_X3_canBeGiven : GoodIn wsX3_canBeDone (wsV RX3 71 RX3 yX3_canBeGiven wsX3_canBeGiven) := goodIn_app (goodIn_of _ (by decide +kernel)) ggX3_canBeDone_X3_canBeGiven
theorem dX3_canBeDone_0 : decode cX3_canBeDone 0 = .ok (.aload_n 0, 1) := by decide +kernel
theorem dX3_canBeDone_1 : decode cX3_canBeDone 1 = .ok (.getfield 22, 3) := by decide +kernel
theorem dX3_canBeDone_4 : decode cX3_canBeDone 4 = .ok (.getfield 51, 3) := by decide +kernel
theorem dX3_canBeDone_7 : decode cX3_canBeDone 7 = .ok (.aload_n 0, 1) := by decide +kernel
theorem dX3_canBeDone_8 : decode cX3_canBeDone 8 = .ok (.getfield 18, 3) := by decide +kernel
theorem dX3_canBeDone_11 : decode cX3_canBeDone 11 = .ok (.getfield 54, 3) := by decide +kernel
theorem dX3_canBeDone_14 : decode cX3_canBeDone 14 = .ok (.iload_n 1, 1) := by decide +kernel
theorem dX3_canBeDone_15 : decode cX3_canBeDone 15 = .ok (.iaload, 1) := by decide +kernel
theorem dX3_canBeDone_16 : decode cX3_canBeDone 16 = .ok (.invokestatic 58, 3) := by decide +kernel
theorem dX3_canBeDone_19 : decode cX3_canBeDone 19 = .ok (.ifCond .eq 5, 3) := by decide +kernel
theorem dX3_canBeDone_22 : decode cX3_canBeDone 22 = .ok (.iconst 0, 1) := by decide +kernel
theorem dX3_canBeDone_23 : decode cX3_canBeDone 23 = .ok (.ireturn, 1) := by decide +kernel
theorem dX3_canBeDone_24 : decode cX3_canBeDone 24 = .ok (.aload_n 0, 1) := by decide +kernel
theorem dX3_canBeDone_25 : decode cX3_canBeDone 25 = .ok (.getfield 18, 3) := by decide +kernel
theorem dX3_canBeDone_28 : decode cX3_canBeDone 28 = .ok (.getfield 62, 3) := by decide +kernel
theorem dX3_canBeDone_31 : decode cX3_canBeDone 31 = .ok (.iload_n 1, 1) := by decide +kernel
theorem dX3_canBeDone_32 : decode cX3_canBeDone 32 = .ok (.iaload, 1) := by decide +kernel
theorem dX3_canBeDone_33 : decode cX3_canBeDone 33 = .ok (.istore_n 2, 1) := by decide +kernel
theorem dX3_canBeDone_34 : decode cX3_canBeDone 34 = .ok (.iload_n 2, 1) := by decide +kernel
theorem dX3_canBeDone_35 : decode cX3_canBeDone 35 = .ok (.iconst 2, 1) := by decide +kernel
theorem dX3_canBeDone_36 : decode cX3_canBeDone 36 = .ok (.if_icmp .eq 8, 3) := by decide +kernel
theorem dX3_canBeDone_39 : decode cX3_canBeDone 39 = .ok (.iload_n 2, 1) := by decide +kernel
theorem dX3_canBeDone_40 : decode cX3_canBeDone 40 = .ok (.iconst 3, 1) := by decide +kernel
theorem dX3_canBeDone_41 : decode cX3_canBeDone 41 = .ok (.if_icmp .ne 5, 3) := by decide +kernel
theorem dX3_canBeDone_44 : decode cX3_canBeDone 44 = .ok (.iconst 1, 1) := by decide +kernel
theorem dX3_canBeDone_45 : decode cX3_canBeDone 45 = .ok (.ireturn, 1) := by decide +kernel
theorem dX3_canBeDone_46 : decode cX3_canBeDone 46 = .ok (.aload_n 0, 1) := by decide +kernel
theorem dX3_canBeDone_47 : decode cX3_canBeDone 47 = .ok (.getfield 22, 3) := by decide +kernel
theorem dX3_canBeDone_50 : decode cX3_canBeDone 50 = .ok (.getfield 51, 3) := by decide +kernel
theorem dX3_canBeDone_53 : decode cX3_canBeDone 53 = .ok (.aload_n 0, 1) := by decide +kernel
theorem dX3_canBeDone_54 : decode cX3_canBeDone 54 = .ok (.getfield 18, 3) := by decide +kernel
theorem dX3_canBeDone_57 : decode cX3_canBeDone 57 = .ok (.getfield 65, 3) := by decide +kernel
theorem dX3_canBeDone_60 : decode cX3_canBeDone 60 = .ok (.iload_n 1, 1) := by decide +kernel
theorem dX3_canBeDone_61 : decode cX3_canBeDone 61 = .ok (.iaload, 1) := by decide +kernel
theorem dX3_canBeDone_62 : decode cX3_canBeDone 62 = .ok (.invokestatic 58, 3) := by decide +kernel
theorem dX3_canBeDone_65 : decode cX3_canBeDone 65 = .ok (.ifCond .eq 5, 3) := by decide +kernel
theorem dX3_canBeDone_68 : decode cX3_canBeDone 68 = .ok (.iconst 0, 1) := by decide +kernel
theorem dX3_canBeDone_69 : decode cX3_canBeDone 69 = .ok (.ireturn, 1) := by decide +kernel
theorem dX3_canBeDone_70 : decode cX3_canBeDone 70 = .ok (.iload_n 2, 1) := by decide +kernel
theorem dX3_canBeDone_71 : decode cX3_canBeDone 71 = .ok (.ifCond .ne 9, 3) := by decide +kernel
theorem dX3_canBeDone_74 : decode cX3_canBeDone 74 = .ok (.aload_n 0, 1) := by decide +kernel
theorem dX3_canBeDone_75 : decode cX3_canBeDone 75 = .ok (.iload_n 1, 1) := by decide +kernel
theorem dX3_canBeDone_76 : decode cX3_canBeDone 76 = .ok (.invokevirtual 68, 3) := by decide +kernel
theorem dX3_canBeDone_79 : decode cX3_canBeDone 79 = .ok (.ireturn, 1) := by decide +kernel
theorem dX3_canBeDone_80 : decode cX3_canBeDone 80 = .ok (.iload_n 2, 1) := by decide +kernel
theorem dX3_canBeDone_81 : decode cX3_canBeDone 81 = .ok (.iconst 1, 1) := by decide +kernel
theorem dX3_canBeDone_82 : decode cX3_canBeDone 82 = .ok (.if_icmp .ne 11, 3) := by decide +kernel
theorem dX3_canBeDone_85 : decode cX3_canBeDone 85 = .ok (.aload_n 0, 1) := by decide +kernel
theorem dX3_canBeDone_86 : decode cX3_canBeDone 86 = .ok (.iload_n 1, 1) := by decide +kernel
theorem dX3_canBeDone_87 : decode cX3_canBeDone 87 = .ok (.invokevirtual 71, 3) := by decide +kernel
theorem dX3_canBeDone_90 : decode cX3_canBeDone 90 = .ok (.ifCond .eq 7, 3) := by decide +kernel
theorem dX3_canBeDone_93 : decode cX3_canBeDone 93 = .ok (.iconst 1, 1) := by decide +kernel
theorem dX3_canBeDone_94 : decode cX3_canBeDone 94 = .ok (.goto 4, 3) := by decide +kernel
theorem dX3_canBeDone_97 : decode cX3_canBeDone 97 = .ok (.iconst 0, 1) := by decide +kernel
theorem dX3_canBeDone_98 : decode cX3_canBeDone 98 = .ok (.ireturn, 1) := by decide +kernel
set_option maxRecDepth 20000 in
theorem ggX3_canBeTold_X7_isIn : GoodIn wsX3_canBeTold wsX7_isIn := goodIn_r _ [10] (by decide +kernel) (by decide +kernel)
set_option maxRecDepth 20000 in
theorem gX3_canBeTold_X7_isIn_n58 : GoodIn wsX3_canBeTold (wsX7_isIn) := ggX3_canBeTold_X7_isIn
set_option maxRecDepth 20000 in
theorem ggX3_canBeTold_X2_isKnower : GoodIn wsX3_canBeTold wsX2_isKnower := goodIn_r _ [15, 16, 8, 9, 10, 53, 54] (by decide +kernel) (by decide +kernel)
set_option maxRecDepth 20000 in
theorem gX3_canBeTold_X2_isKnower : GoodIn wsX3_canBeTold (wsV RX3 80 RX2 yX2_isKnower wsX2_isKnower) := goodIn_app (goodIn_of _ (by decide +kernel)) ggX3_canBeTold_X2_isKnower
set_option maxRecDepth 20000 in
theorem ggX3_canBeTold_X3_canHear : GoodIn wsX3_canBeTold wsX3_canHear := goodIn_r _ [21, 7, 22, 5, 23, 1, 24, 25, 26, 27, 28, 29, 30, 31, 32, 33, 34, 35, 36, 8, 9, 10, 41, 42, 43, 53, 54, 49, 50, 51, 52, 44, 45, 46, 47, 48] (by decide +kernel) (by decide +kernel)
set_option maxRecDepth 20000 in
theorem gX3_canBeTold_X3_canHear : GoodIn wsX3_canBeTold (wsV RX3 83 RX3 yX3_canHear wsX3_canHear) := goodIn_app (goodIn_of _ (by decide +kernel)) ggX3_canBeTold_X3_canHear
set_option maxRecDepth 20000 in
theorem ggX3_canBeTold_X2_learn : GoodIn wsX3_canBeTold wsX2_learn := goodIn_r _ [40, 16, 53, 54] (by decide +kernel) (by decide +kernel)
set_option maxRecDepth 20000 in
theorem gX3_canBeTold_X2_learn : GoodIn wsX3_canBeTold (wsV RX3 87 RX2 yX2_learn wsX2_learn) := goodIn_app (goodIn_of _ (by decide +kernel)) ggX3_canBeTold_X2_learn
theorem dX3_canBeTold_0 : decode cX3_canBeTold 0 = .ok (.aload_n 0, 1) := by decide +kernel
theorem dX3_canBeTold_1 : decode cX3_canBeTold 1 = .ok (.getfield 18, 3) := by decide +kernel
theorem dX3_canBeTold_4 : decode cX3_canBeTold 4 = .ok (.getfield 54, 3) := by decide +kernel
theorem dX3_canBeTold_7 : decode cX3_canBeTold 7 = .ok (.iload_n 1, 1) := by decide +kernel
theorem dX3_canBeTold_8 : decode cX3_canBeTold 8 = .ok (.iaload, 1) := by decide +kernel
theorem dX3_canBeTold_9 : decode cX3_canBeTold 9 = .ok (.istore_n 2, 1) := by decide +kernel
theorem dX3_canBeTold_10 : decode cX3_canBeTold 10 = .ok (.aload_n 0, 1) := by decide +kernel
theorem dX3_canBeTold_11 : decode cX3_canBeTold 11 = .ok (.getfield 18, 3) := by decide +kernel
theorem dX3_canBeTold_14 : decode cX3_canBeTold 14 = .ok (.getfield 65, 3) := by decide +kernel
theorem dX3_canBeTold_17 : decode cX3_canBeTold 17 = .ok (.iload_n 1, 1) := by decide +kernel
theorem dX3_canBeTold_18 : decode cX3_canBeTold 18 = .ok (.iaload, 1) := by decide +kernel
theorem dX3_canBeTold_19 : decode cX3_canBeTold 19 = .ok (.istore_n 3, 1) := by decide +kernel
theorem dX3_canBeTold_20 : decode cX3_canBeTold 20 = .ok (.aload_n 0, 1) := by decide +kernel
theorem dX3_canBeTold_21 : decode cX3_canBeTold 21 = .ok (.getfield 18, 3) := by decide +kernel
theorem dX3_canBeTold_24 : decode cX3_canBeTold 24 = .ok (.getfield 74, 3) := by decide +kernel
theorem dX3_canBeTold_27 : decode cX3_canBeTold 27 = .ok (.iload_n 1, 1) := by decide +kernel
theorem dX3_canBeTold_28 : decode cX3_canBeTold 28 = .ok (.iaload, 1) := by decide +kernel
theorem dX3_canBeTold_29 : decode cX3_canBeTold 29 = .ok (.istore 4, 2) := by decide +kernel
theorem dX3_canBeTold_31 : decode cX3_canBeTold 31 = .ok (.aload_n 0, 1) := by decide +kernel
theorem dX3_canBeTold_32 : decode cX3_canBeTold 32 = .ok (.getfield 22, 3) := by decide +kernel
theorem dX3_canBeTold_35 : decode cX3_canBeTold 35 = .ok (.getfield 77, 3) := by decide +kernel
theorem dX3_canBeTold_38 : decode cX3_canBeTold 38 = .ok (.iload 4, 2) := by decide +kernel
theorem dX3_canBeTold_40 : decode cX3_canBeTold 40 = .ok (.invokestatic 58, 3) := by decide +kernel
theorem dX3_canBeTold_43 : decode cX3_canBeTold 43 = .ok (.ifCond .ne 16, 3) := by decide +kernel
theorem dX3_canBeTold_46 : decode cX3_canBeTold 46 = .ok (.aload_n 0, 1) := by decide +kernel
theorem dX3_canBeTold_47 : decode cX3_canBeTold 47 = .ok (.getfield 12, 3) := by decide +kernel
theorem dX3_canBeTold_50 : decode cX3_canBeTold 50 = .ok (.iload_n 3, 1) := by decide +kernel
theorem dX3_canBeTold_51 : decode cX3_canBeTold 51 = .ok (.iload 4, 2) := by decide +kernel
theorem dX3_canBeTold_53 : decode cX3_canBeTold 53 = .ok (.invokevirtual 80, 3) := by decide +kernel
theorem dX3_canBeTold_56 : decode cX3_canBeTold 56 = .ok (.ifCond .eq 5, 3) := by decide +kernel
theorem dX3_canBeTold_59 : decode cX3_canBeTold 59 = .ok (.iconst 0, 1) := by decide +kernel
theorem dX3_canBeTold_60 : decode cX3_canBeTold 60 = .ok (.ireturn, 1) := by decide +kernel
theorem dX3_canBeTold_61 : decode cX3_canBeTold 61 = .ok (.aload_n 0, 1) := by decide +kernel
theorem dX3_canBeTold_62 : decode cX3_canBeTold 62 = .ok (.getfield 12, 3) := by decide +kernel
theorem dX3_canBeTold_65 : decode cX3_canBeTold 65 = .ok (.iload_n 2, 1) := by decide +kernel
theorem dX3_canBeTold_66 : decode cX3_canBeTold 66 = .ok (.iload 4, 2) := by decide +kernel
theorem dX3_canBeTold_68 : decode cX3_canBeTold 68 = .ok (.invokevirtual 80, 3) := by decide +kernel
theorem dX3_canBeTold_71 : decode cX3_canBeTold 71 = .ok (.ifCond .ne 16, 3) := by decide +kernel
theorem dX3_canBeTold_74 : decode cX3_canBeTold 74 = .ok (.aload_n 0, 1) := by decide +kernel
theorem dX3_canBeTold_75 : decode cX3_canBeTold 75 = .ok (.iload_n 2, 1) := by decide +kernel
theorem dX3_canBeTold_76 : decode cX3_canBeTold 76 = .ok (.iload 4, 2) := by decide +kernel
theorem dX3_canBeTold_78 : decode cX3_canBeTold 78 = .ok (.iload_n 1, 1) := by decide +kernel
theorem dX3_canBeTold_79 : decode cX3_canBeTold 79 = .ok (.invokevirtual 83, 3) := by decide +kernel
theorem dX3_canBeTold_82 : decode cX3_canBeTold 82 = .ok (.ifCond .ne 5, 3) := by decide +kernel
theorem dX3_canBeTold_85 : decode cX3_canBeTold 85 = .ok (.iconst 0, 1) := by decide +kernel
theorem dX3_canBeTold_86 : decode cX3_canBeTold 86 = .ok (.ireturn, 1) := by decide +kernel
theorem dX3_canBeTold_87 : decode cX3_canBeTold 87 = .ok (.aload_n 0, 1) := by decide +kernel
theorem dX3_canBeTold_88 : decode cX3_canBeTold 88 = .ok (.getfield 12, 3) := by decide +kernel
theorem dX3_canBeTold_91 : decode cX3_canBeTold 91 = .ok (.iload_n 2, 1) := by decide +kernel
theorem dX3_canBeTold_92 : decode cX3_canBeTold 92 = .ok (.iload 4, 2) := by decide +kernel
theorem dX3_canBeTold_94 : decode cX3_canBeTold 94 = .ok (.invokevirtual 87, 3) := by decide +kernel
theorem dX3_canBeTold_97 : decode cX3_canBeTold 97 = .ok (.aload_n 0, 1) := by decide +kernel
theorem dX3_canBeTold_98 : decode cX3_canBeTold 98 = .ok (.getfield 12, 3) := by decide +kernel
theorem dX3_canBeTold_101 : decode cX3_canBeTold 101 = .ok (.iload_n 3, 1) := by decide +kernel
theorem dX3_canBeTold_102 : decode cX3_canBeTold 102 = .ok (.iload 4, 2) := by decide +kernel
theorem dX3_canBeTold_104 : decode cX3_canBeTold 104 = .ok (.invokevirtual 87, 3) := by decide +kernel
theorem dX3_canBeTold_107 : decode cX3_canBeTold 107 = .ok (.iconst 1, 1) := by decide +kernel
theorem dX3_canBeTold_108 : decode cX3_canBeTold 108 = .ok (.ireturn, 1) := by decide +kernel
set_option maxRecDepth 20000 in
theorem ggX3_canHear_X0_listenersFrom : GoodIn wsX3_canHear wsX0_listenersFrom := goodIn_r _ [10, 11, 12, 13, 14, 15, 16, 17, 18, 31, 32, 33, 34, 35] (by decide +kernel) (by decide +kernel)
set_option maxRecDepth 20000 in
theorem gX3_canHear_X0_listenersFrom : GoodIn wsX3_canHear (wsV RX3 94 RX0 yX0_listenersFrom wsX0_listenersFrom) := goodIn_app (goodIn_of _ (by decide +kernel)) ggX3_canHear_X0_listenersFrom
set_option maxRecDepth 20000 in
theorem ggX3_canHear_X7_isIn : GoodIn wsX3_canHear wsX7_isIn := goodIn_r _ [21] (by decide +kernel) (by decide +kernel)
set_option maxRecDepth 20000 in
theorem gX3_canHear_X7_isIn_n58 : GoodIn wsX3_canHear (wsX7_isIn) := ggX3_canHear_X7_isIn
theorem dX3_canHear_0 : decode cX3_canHear 0 = .ok (.aload_n 0, 1) := by decide +kernel
theorem dX3_canHear_1 : decode cX3_canHear 1 = .ok (.getfield 12, 3) := by decide +kernel
theorem dX3_canHear_4 : decode cX3_canHear 4 = .ok (.getfield 91, 3) := by decide +kernel
theorem dX3_canHear_7 : decode cX3_canHear 7 = .ok (.iload_n 2, 1) := by decide +kernel
theorem dX3_canHear_8 : decode cX3_canHear 8 = .ok (.iaload, 1) := by decide +kernel
theorem dX3_canHear_9 : decode cX3_canHear 9 = .ok (.aload_n 0, 1) := by decide +kernel
theorem dX3_canHear_10 : decode cX3_canHear 10 = .ok (.getfield 22, 3) := by decide +kernel
theorem dX3_canHear_13 : decode cX3_canHear 13 = .ok (.getfield 51, 3) := by decide +kernel
theorem dX3_canHear_16 : decode cX3_canHear 16 = .ok (.iconst (-1), 1) := by decide +kernel
theorem dX3_canHear_17 : decode cX3_canHear 17 = .ok (.ixor, 1) := by decide +kernel
theorem dX3_canHear_18 : decode cX3_canHear 18 = .ok (.iand, 1) := by decide +kernel
theorem dX3_canHear_19 : decode cX3_canHear 19 = .ok (.istore 4, 2) := by decide +kernel
theorem dX3_canHear_21 : decode cX3_canHear 21 = .ok (.iload 4, 2) := by decide +kernel
theorem dX3_canHear_23 : decode cX3_canHear 23 = .ok (.ifCond .eq 25, 3) := by decide +kernel
theorem dX3_canHear_26 : decode cX3_canHear 26 = .ok (.aload_n 0, 1) := by decide +kernel
theorem dX3_canHear_27 : decode cX3_canHear 27 = .ok (.getfield 18, 3) := by decide +kernel
theorem dX3_canHear_30 : decode cX3_canHear 30 = .ok (.iload_n 3, 1) := by decide +kernel
theorem dX3_canHear_31 : decode cX3_canHear 31 = .ok (.iconst 1, 1) := by decide +kernel
theorem dX3_canHear_32 : decode cX3_canHear 32 = .ok (.iadd, 1) := by decide +kernel
theorem dX3_canHear_33 : decode cX3_canHear 33 = .ok (.iload_n 2, 1) := by decide +kernel
theorem dX3_canHear_34 : decode cX3_canHear 34 = .ok (.invokevirtual 94, 3) := by decide +kernel
theorem dX3_canHear_37 : decode cX3_canHear 37 = .ok (.iload_n 1, 1) := by decide +kernel
theorem dX3_canHear_38 : decode cX3_canHear 38 = .ok (.invokestatic 58, 3) := by decide +kernel
theorem dX3_canHear_41 : decode cX3_canHear 41 = .ok (.ifCond .ne 7, 3) := by decide +kernel
theorem dX3_canHear_44 : decode cX3_canHear 44 = .ok (.iconst 1, 1) := by decide +kernel
theorem dX3_canHear_45 : decode cX3_canHear 45 = .ok (.goto 4, 3) := by decide +kernel
theorem dX3_canHear_48 : decode cX3_canHear 48 = .ok (.iconst 0, 1) := by decide +kernel
theorem dX3_canHear_49 : decode cX3_canHear 49 = .ok (.ireturn, 1) := by decide +kernel
set_option maxRecDepth 20000 in
theorem ggX3_canBeGiven_X7_isIn : GoodIn wsX3_canBeGiven wsX7_isIn := goodIn_r _ [10] (by decide +kernel) (by decide +kernel)
set_option maxRecDepth 20000 in
theorem gX3_canBeGiven_X7_isIn_n58 : GoodIn wsX3_canBeGiven (wsX7_isIn) := ggX3_canBeGiven_X7_isIn
theorem dX3_canBeGiven_0 : decode cX3_canBeGiven 0 = .ok (.aload_n 0, 1) := by decide +kernel
theorem dX3_canBeGiven_1 : decode cX3_canBeGiven 1 = .ok (.getfield 18, 3) := by decide +kernel
theorem dX3_canBeGiven_4 : decode cX3_canBeGiven 4 = .ok (.getfield 74, 3) := by decide +kernel
theorem dX3_canBeGiven_7 : decode cX3_canBeGiven 7 = .ok (.iload_n 1, 1) := by decide +kernel
theorem dX3_canBeGiven_8 : decode cX3_canBeGiven 8 = .ok (.iaload, 1) := by decide +kernel
theorem dX3_canBeGiven_9 : decode cX3_canBeGiven 9 = .ok (.istore_n 2, 1) := by decide +kernel
theorem dX3_canBeGiven_10 : decode cX3_canBeGiven 10 = .ok (.aload_n 0, 1) := by decide +kernel
theorem dX3_canBeGiven_11 : decode cX3_canBeGiven 11 = .ok (.getfield 12, 3) := by decide +kernel
theorem dX3_canBeGiven_14 : decode cX3_canBeGiven 14 = .ok (.getfield 97, 3) := by decide +kernel
theorem dX3_canBeGiven_17 : decode cX3_canBeGiven 17 = .ok (.iload_n 2, 1) := by decide +kernel
theorem dX3_canBeGiven_18 : decode cX3_canBeGiven 18 = .ok (.iaload, 1) := by decide +kernel
theorem dX3_canBeGiven_19 : decode cX3_canBeGiven 19 = .ok (.istore_n 3, 1) := by decide +kernel
theorem dX3_canBeGiven_20 : decode cX3_canBeGiven 20 = .ok (.iload_n 3, 1) := by decide +kernel
theorem dX3_canBeGiven_21 : decode cX3_canBeGiven 21 = .ok (.iconst (-1), 1) := by decide +kernel
theorem dX3_canBeGiven_22 : decode cX3_canBeGiven 22 = .ok (.if_icmp .eq 19, 3) := by decide +kernel
theorem dX3_canBeGiven_25 : decode cX3_canBeGiven 25 = .ok (.aload_n 0, 1) := by decide +kernel
theorem dX3_canBeGiven_26 : decode cX3_canBeGiven 26 = .ok (.getfield 22, 3) := by decide +kernel
theorem dX3_canBeGiven_29 : decode cX3_canBeGiven 29 = .ok (.getfield 51, 3) := by decide +kernel
theorem dX3_canBeGiven_32 : decode cX3_canBeGiven 32 = .ok (.iload_n 3, 1) := by decide +kernel
theorem dX3_canBeGiven_33 : decode cX3_canBeGiven 33 = .ok (.invokestatic 58, 3) := by decide +kernel
theorem dX3_canBeGiven_36 : decode cX3_canBeGiven 36 = .ok (.ifCond .eq 5, 3) := by decide +kernel
theorem dX3_canBeGiven_39 : decode cX3_canBeGiven 39 = .ok (.iconst 0, 1) := by decide +kernel
theorem dX3_canBeGiven_40 : decode cX3_canBeGiven 40 = .ok (.ireturn, 1) := by decide +kernel
theorem dX3_canBeGiven_41 : decode cX3_canBeGiven 41 = .ok (.aload_n 0, 1) := by decide +kernel
theorem dX3_canBeGiven_42 : decode cX3_canBeGiven 42 = .ok (.getfield 12, 3) := by decide +kernel
theorem dX3_canBeGiven_45 : decode cX3_canBeGiven 45 = .ok (.getfield 97, 3) := by decide +kernel
theorem dX3_canBeGiven_48 : decode cX3_canBeGiven 48 = .ok (.iload_n 2, 1) := by decide +kernel
theorem dX3_canBeGiven_49 : decode cX3_canBeGiven 49 = .ok (.aload_n 0, 1) := by decide +kernel
theorem dX3_canBeGiven_50 : decode cX3_canBeGiven 50 = .ok (.getfield 18, 3) := by decide +kernel
theorem dX3_canBeGiven_53 : decode cX3_canBeGiven 53 = .ok (.getfield 65, 3) := by decide +kernel
theorem dX3_canBeGiven_56 : decode cX3_canBeGiven 56 = .ok (.iload_n 1, 1) := by decide +kernel
theorem dX3_canBeGiven_57 : decode cX3_canBeGiven 57 = .ok (.iaload, 1) := by decide +kernel
theorem dX3_canBeGiven_58 : decode cX3_canBeGiven 58 = .ok (.iastore, 1) := by decide +kernel
theorem dX3_canBeGiven_59 : decode cX3_canBeGiven 59 = .ok (.iconst 1, 1) := by decide +kernel
theorem dX3_canBeGiven_60 : decode cX3_canBeGiven 60 = .ok (.ireturn, 1) := by decide +kernel
theorem dX4_init_0 : decode cX4_init 0 = .ok (.aload_n 0, 1) := by decide +kernel
theorem dX4_init_1 : decode cX4_init 1 = .ok (.invokespecial 3, 3) := by decide +kernel
theorem dX4_init_4 : decode cX4_init 4 = .ok (.aload_n 0, 1) := by decide +kernel
theorem dX4_init_5 : decode cX4_init 5 = .ok (.aload_n 1, 1) := by decide +kernel
theorem dX4_init_6 : decode cX4_init 6 = .ok (.putfield 9, 3) := by decide +kernel
theorem dX4_init_9 : decode cX4_init 9 = .ok (.aload_n 0, 1) := by decide +kernel
theorem dX4_init_10 : decode cX4_init 10 = .ok (.aload_n 2, 1) := by decide +kernel
theorem dX4_init_11 : decode cX4_init 11 = .ok (.putfield 15, 3) := by decide +kernel
theorem dX4_init_14 : decode cX4_init 14 = .ok (.return_, 1) := by decide +kernel
set_option maxRecDepth 20000 in
theorem ggX4_movesTo_X7_isIn : GoodIn wsX4_movesTo wsX7_isIn := goodIn_r _ [11] (by decide +kernel) (by decide +kernel)
set_option maxRecDepth 20000 in
theorem gX4_movesTo_X7_isIn_n43 : GoodIn wsX4_movesTo (wsX7_isIn) := ggX4_movesTo_X7_isIn
set_option maxRecDepth 20000 in
theorem ggX4_movesTo_X4_toHaveOn : GoodIn wsX4_movesTo wsX4_toHaveOn := goodIn_r _ [16, 7, 8, 9, 10, 11, 28, 29, 35, 36, 37, 38] (by decide +kernel) (by decide +kernel)
set_option maxRecDepth 20000 in
theorem gX4_movesTo_X4_toHaveOn : GoodIn wsX4_movesTo (wsV RX4 47 RX4 yX4_toHaveOn wsX4_toHaveOn) := goodIn_app (goodIn_of _ (by decide +kernel)) ggX4_movesTo_X4_toHaveOn
set_option maxRecDepth 20000 in
theorem ggX4_movesTo_X4_toHear : GoodIn wsX4_movesTo wsX4_toHear := goodIn_r _ [20, 7, 21, 22, 8, 9, 10, 11, 28, 29, 35, 36, 37, 38, 39, 40] (by decide +kernel) (by decide +kernel)
set_option maxRecDepth 20000 in
theorem gX4_movesTo_X4_toHear : GoodIn wsX4_movesTo (wsV RX4 51 RX4 yX4_toHear wsX4_toHear) := goodIn_app (goodIn_of _ (by decide +kernel)) ggX4_movesTo_X4_toHear
set_option maxRecDepth 20000 in
theorem ggX4_movesTo_X4_toGet : GoodIn wsX4_movesTo wsX4_toGet := goodIn_r _ [26, 7, 21, 27, 12, 13, 14, 15, 16, 8, 9, 10, 11, 28, 29, 35, 36, 37, 38, 39, 40] (by decide +kernel) (by decide +kernel)
set_option maxRecDepth 20000 in
theorem gX4_movesTo_X4_toGet : GoodIn wsX4_movesTo (wsV RX4 55 RX4 yX4_toGet wsX4_toGet) := goodIn_app (goodIn_of _ (by decide +kernel)) ggX4_movesTo_X4_toGet
theorem dX4_movesTo_0 : decode cX4_movesTo 0 = .ok (.iload_n 1, 1) := by decide +kernel
theorem dX4_movesTo_1 : decode cX4_movesTo 1 = .ok (.ifCond .lt 14, 3) := by decide +kernel
theorem dX4_movesTo_4 : decode cX4_movesTo 4 = .ok (.iload_n 1, 1) := by decide +kernel
theorem dX4_movesTo_5 : decode cX4_movesTo 5 = .ok (.aload_n 0, 1) := by decide +kernel
theorem dX4_movesTo_6 : decode cX4_movesTo 6 = .ok (.getfield 9, 3) := by decide +kernel
theorem dX4_movesTo_9 : decode cX4_movesTo 9 = .ok (.getfield 19, 3) := by decide +kernel
theorem dX4_movesTo_12 : decode cX4_movesTo 12 = .ok (.if_icmp .lt 5, 3) := by decide +kernel
theorem dX4_movesTo_15 : decode cX4_movesTo 15 = .ok (.iconst (-1), 1) := by decide +kernel
theorem dX4_movesTo_16 : decode cX4_movesTo 16 = .ok (.ireturn, 1) := by decide +kernel
theorem dX4_movesTo_17 : decode cX4_movesTo 17 = .ok (.aload_n 0, 1) := by decide +kernel
theorem dX4_movesTo_18 : decode cX4_movesTo 18 = .ok (.getfield 9, 3) := by decide +kernel
theorem dX4_movesTo_21 : decode cX4_movesTo 21 = .ok (.getfield 25, 3) := by decide +kernel
theorem dX4_movesTo_24 : decode cX4_movesTo 24 = .ok (.iload_n 1, 1) := by decide +kernel
theorem dX4_movesTo_25 : decode cX4_movesTo 25 = .ok (.iaload, 1) := by decide +kernel
theorem dX4_movesTo_26 : decode cX4_movesTo 26 = .ok (.istore_n 2, 1) := by decide +kernel
theorem dX4_movesTo_27 : decode cX4_movesTo 27 = .ok (.aload_n 0, 1) := by decide +kernel
theorem dX4_movesTo_28 : decode cX4_movesTo 28 = .ok (.getfield 9, 3) := by decide +kernel
theorem dX4_movesTo_31 : decode cX4_movesTo 31 = .ok (.getfield 29, 3) := by decide +kernel
theorem dX4_movesTo_34 : decode cX4_movesTo 34 = .ok (.iload_n 1, 1) := by decide +kernel
theorem dX4_movesTo_35 : decode cX4_movesTo 35 = .ok (.iaload, 1) := by decide +kernel
theorem dX4_movesTo_36 : decode cX4_movesTo 36 = .ok (.istore_n 3, 1) := by decide +kernel
theorem dX4_movesTo_37 : decode cX4_movesTo 37 = .ok (.aload_n 0, 1) := by decide +kernel
theorem dX4_movesTo_38 : decode cX4_movesTo 38 = .ok (.getfield 9, 3) := by decide +kernel
theorem dX4_movesTo_41 : decode cX4_movesTo 41 = .ok (.getfield 32, 3) := by decide +kernel
theorem dX4_movesTo_44 : decode cX4_movesTo 44 = .ok (.iload_n 1, 1) := by decide +kernel
theorem dX4_movesTo_45 : decode cX4_movesTo 45 = .ok (.iaload, 1) := by decide +kernel
theorem dX4_movesTo_46 : decode cX4_movesTo 46 = .ok (.istore 4, 2) := by decide +kernel
theorem dX4_movesTo_48 : decode cX4_movesTo 48 = .ok (.aload_n 0, 1) := by decide +kernel
theorem dX4_movesTo_49 : decode cX4_movesTo 49 = .ok (.getfield 9, 3) := by decide +kernel
theorem dX4_movesTo_52 : decode cX4_movesTo 52 = .ok (.getfield 35, 3) := by decide +kernel
theorem dX4_movesTo_55 : decode cX4_movesTo 55 = .ok (.iload_n 1, 1) := by decide +kernel
theorem dX4_movesTo_56 : decode cX4_movesTo 56 = .ok (.iaload, 1) := by decide +kernel
theorem dX4_movesTo_57 : decode cX4_movesTo 57 = .ok (.tableswitch 116 0 3 #[71, 93, 31, 51], 31) := by decide +kernel
theorem dX4_movesTo_88 : decode cX4_movesTo 88 = .ok (.aload_n 0, 1) := by decide +kernel
theorem dX4_movesTo_89 : decode cX4_movesTo 89 = .ok (.getfield 15, 3) := by decide +kernel
theorem dX4_movesTo_92 : decode cX4_movesTo 92 = .ok (.getfield 38, 3) := by decide +kernel
theorem dX4_movesTo_95 : decode cX4_movesTo 95 = .ok (.iload_n 2, 1) := by decide +kernel
theorem dX4_movesTo_96 : decode cX4_movesTo 96 = .ok (.invokestatic 43, 3) := by decide +kernel
theorem dX4_movesTo_99 : decode cX4_movesTo 99 = .ok (.ifCond .eq 7, 3) := by decide +kernel
theorem dX4_movesTo_102 : decode cX4_movesTo 102 = .ok (.iconst 2, 1) := by decide +kernel
theorem dX4_movesTo_103 : decode cX4_movesTo 103 = .ok (.goto 4, 3) := by decide +kernel
theorem dX4_movesTo_106 : decode cX4_movesTo 106 = .ok (.iconst 1, 1) := by decide +kernel
theorem dX4_movesTo_107 : decode cX4_movesTo 107 = .ok (.ireturn, 1) := by decide +kernel
theorem dX4_movesTo_108 : decode cX4_movesTo 108 = .ok (.aload_n 0, 1) := by decide +kernel
theorem dX4_movesTo_109 : decode cX4_movesTo 109 = .ok (.getfield 15, 3) := by decide +kernel
theorem dX4_movesTo_112 : decode cX4_movesTo 112 = .ok (.getfield 38, 3) := by decide +kernel
theorem dX4_movesTo_115 : decode cX4_movesTo 115 = .ok (.iload_n 2, 1) := by decide +kernel
theorem dX4_movesTo_116 : decode cX4_movesTo 116 = .ok (.invokestatic 43, 3) := by decide +kernel
theorem dX4_movesTo_119 : decode cX4_movesTo 119 = .ok (.ifCond .eq 7, 3) := by decide +kernel
theorem dX4_movesTo_122 : decode cX4_movesTo 122 = .ok (.iconst 1, 1) := by decide +kernel
theorem dX4_movesTo_123 : decode cX4_movesTo 123 = .ok (.goto 4, 3) := by decide +kernel
theorem dX4_movesTo_126 : decode cX4_movesTo 126 = .ok (.iconst 2, 1) := by decide +kernel
theorem dX4_movesTo_127 : decode cX4_movesTo 127 = .ok (.ireturn, 1) := by decide +kernel
theorem dX4_movesTo_128 : decode cX4_movesTo 128 = .ok (.aload_n 0, 1) := by decide +kernel
theorem dX4_movesTo_129 : decode cX4_movesTo 129 = .ok (.iload_n 2, 1) := by decide +kernel
theorem dX4_movesTo_130 : decode cX4_movesTo 130 = .ok (.invokevirtual 47, 3) := by decide +kernel
theorem dX4_movesTo_133 : decode cX4_movesTo 133 = .ok (.aload_n 0, 1) := by decide +kernel
theorem dX4_movesTo_134 : decode cX4_movesTo 134 = .ok (.iload_n 3, 1) := by decide +kernel
theorem dX4_movesTo_135 : decode cX4_movesTo 135 = .ok (.invokevirtual 47, 3) := by decide +kernel
theorem dX4_movesTo_138 : decode cX4_movesTo 138 = .ok (.iadd, 1) := by decide +kernel
theorem dX4_movesTo_139 : decode cX4_movesTo 139 = .ok (.aload_n 0, 1) := by decide +kernel
theorem dX4_movesTo_140 : decode cX4_movesTo 140 = .ok (.iload_n 2, 1) := by decide +kernel
theorem dX4_movesTo_141 : decode cX4_movesTo 141 = .ok (.iload 4, 2) := by decide +kernel
theorem dX4_movesTo_143 : decode cX4_movesTo 143 = .ok (.invokevirtual 51, 3) := by decide +kernel
theorem dX4_movesTo_146 : decode cX4_movesTo 146 = .ok (.iadd, 1) := by decide +kernel
theorem dX4_movesTo_147 : decode cX4_movesTo 147 = .ok (.iconst 1, 1) := by decide +kernel
theorem dX4_movesTo_148 : decode cX4_movesTo 148 = .ok (.iadd, 1) := by decide +kernel
theorem dX4_movesTo_149 : decode cX4_movesTo 149 = .ok (.ireturn, 1) := by decide +kernel
theorem dX4_movesTo_150 : decode cX4_movesTo 150 = .ok (.aload_n 0, 1) := by decide +kernel
theorem dX4_movesTo_151 : decode cX4_movesTo 151 = .ok (.iload_n 2, 1) := by decide +kernel
theorem dX4_movesTo_152 : decode cX4_movesTo 152 = .ok (.invokevirtual 47, 3) := by decide +kernel
theorem dX4_movesTo_155 : decode cX4_movesTo 155 = .ok (.aload_n 0, 1) := by decide +kernel
theorem dX4_movesTo_156 : decode cX4_movesTo 156 = .ok (.iload_n 3, 1) := by decide +kernel
theorem dX4_movesTo_157 : decode cX4_movesTo 157 = .ok (.invokevirtual 47, 3) := by decide +kernel
theorem dX4_movesTo_160 : decode cX4_movesTo 160 = .ok (.iadd, 1) := by decide +kernel
theorem dX4_movesTo_161 : decode cX4_movesTo 161 = .ok (.aload_n 0, 1) := by decide +kernel
theorem dX4_movesTo_162 : decode cX4_movesTo 162 = .ok (.iload_n 2, 1) := by decide +kernel
theorem dX4_movesTo_163 : decode cX4_movesTo 163 = .ok (.iload_n 3, 1) := by decide +kernel
theorem dX4_movesTo_164 : decode cX4_movesTo 164 = .ok (.iload 4, 2) := by decide +kernel
theorem dX4_movesTo_166 : decode cX4_movesTo 166 = .ok (.invokevirtual 55, 3) := by decide +kernel
theorem dX4_movesTo_169 : decode cX4_movesTo 169 = .ok (.iadd, 1) := by decide +kernel
theorem dX4_movesTo_170 : decode cX4_movesTo 170 = .ok (.iconst 1, 1) := by decide +kernel
theorem dX4_movesTo_171 : decode cX4_movesTo 171 = .ok (.iadd, 1) := by decide +kernel
theorem dX4_movesTo_172 : decode cX4_movesTo 172 = .ok (.ireturn, 1) := by decide +kernel
theorem dX4_movesTo_173 : decode cX4_movesTo 173 = .ok (.aload_n 0, 1) := by decide +kernel
theorem dX4_movesTo_174 : decode cX4_movesTo 174 = .ok (.iload_n 2, 1) := by decide +kernel
theorem dX4_movesTo_175 : decode cX4_movesTo 175 = .ok (.invokevirtual 47, 3) := by decide +kernel
theorem dX4_movesTo_178 : decode cX4_movesTo 178 = .ok (.aload_n 0, 1) := by decide +kernel
theorem dX4_movesTo_179 : decode cX4_movesTo 179 = .ok (.iload_n 3, 1) := by decide +kernel
theorem dX4_movesTo_180 : decode cX4_movesTo 180 = .ok (.invokevirtual 47, 3) := by decide +kernel
theorem dX4_movesTo_183 : decode cX4_movesTo 183 = .ok (.iadd, 1) := by decide +kernel
theorem dX4_movesTo_184 : decode cX4_movesTo 184 = .ok (.iconst 1, 1) := by decide +kernel
theorem dX4_movesTo_185 : decode cX4_movesTo 185 = .ok (.iadd, 1) := by decide +kernel
theorem dX4_movesTo_186 : decode cX4_movesTo 186 = .ok (.ireturn, 1) := by decide +kernel
set_option maxRecDepth 20000 in
theorem ggX4_toHaveOn_X7_isIn : GoodIn wsX4_toHaveOn wsX7_isIn := goodIn_r _ [5] (by decide +kernel) (by decide +kernel)
set_option maxRecDepth 20000 in
theorem gX4_toHaveOn_X7_isIn_n43 : GoodIn wsX4_toHaveOn (wsX7_isIn) := ggX4_toHaveOn_X7_isIn
theorem dX4_toHaveOn_0 : decode cX4_toHaveOn 0 = .ok (.aload_n 0, 1) := by decide +kernel
theorem dX4_toHaveOn_1 : decode cX4_toHaveOn 1 = .ok (.getfield 15, 3) := by decide +kernel
theorem dX4_toHaveOn_4 : decode cX4_toHaveOn 4 = .ok (.getfield 38, 3) := by decide +kernel
theorem dX4_toHaveOn_7 : decode cX4_toHaveOn 7 = .ok (.iload_n 1, 1) := by decide +kernel
theorem dX4_toHaveOn_8 : decode cX4_toHaveOn 8 = .ok (.invokestatic 43, 3) := by decide +kernel
theorem dX4_toHaveOn_11 : decode cX4_toHaveOn 11 = .ok (.ifCond .eq 7, 3) := by decide +kernel
theorem dX4_toHaveOn_14 : decode cX4_toHaveOn 14 = .ok (.iconst 0, 1) := by decide +kernel
theorem dX4_toHaveOn_15 : decode cX4_toHaveOn 15 = .ok (.goto 4, 3) := by decide +kernel
theorem dX4_toHaveOn_18 : decode cX4_toHaveOn 18 = .ok (.iconst 1, 1) := by decide +kernel
theorem dX4_toHaveOn_19 : decode cX4_toHaveOn 19 = .ok (.ireturn, 1) := by decide +kernel
set_option maxRecDepth 20000 in
theorem ggX4_toHear_X7_isIn : GoodIn wsX4_toHear wsX7_isIn := goodIn_r _ [7] (by decide +kernel) (by decide +kernel)
set_option maxRecDepth 20000 in
theorem gX4_toHear_X7_isIn_n43 : GoodIn wsX4_toHear (wsX7_isIn) := ggX4_toHear_X7_isIn
theorem dX4_toHear_0 : decode cX4_toHear 0 = .ok (.aload_n 0, 1) := by decide +kernel
theorem dX4_toHear_1 : decode cX4_toHear 1 = .ok (.getfield 15, 3) := by decide +kernel
theorem dX4_toHear_4 : decode cX4_toHear 4 = .ok (.getfield 59, 3) := by decide +kernel
theorem dX4_toHear_7 : decode cX4_toHear 7 = .ok (.getfield 63, 3) := by decide +kernel
theorem dX4_toHear_10 : decode cX4_toHear 10 = .ok (.iload_n 2, 1) := by decide +kernel
theorem dX4_toHear_11 : decode cX4_toHear 11 = .ok (.iaload, 1) := by decide +kernel
theorem dX4_toHear_12 : decode cX4_toHear 12 = .ok (.istore_n 3, 1) := by decide +kernel
theorem dX4_toHear_13 : decode cX4_toHear 13 = .ok (.iload_n 3, 1) := by decide +kernel
theorem dX4_toHear_14 : decode cX4_toHear 14 = .ok (.iload_n 1, 1) := by decide +kernel
theorem dX4_toHear_15 : decode cX4_toHear 15 = .ok (.invokestatic 43, 3) := by decide +kernel
theorem dX4_toHear_18 : decode cX4_toHear 18 = .ok (.ifCond .eq 5, 3) := by decide +kernel
theorem dX4_toHear_21 : decode cX4_toHear 21 = .ok (.iconst 0, 1) := by decide +kernel
theorem dX4_toHear_22 : decode cX4_toHear 22 = .ok (.ireturn, 1) := by decide +kernel
theorem dX4_toHear_23 : decode cX4_toHear 23 = .ok (.iload_n 3, 1) := by decide +kernel
theorem dX4_toHear_24 : decode cX4_toHear 24 = .ok (.aload_n 0, 1) := by decide +kernel
theorem dX4_toHear_25 : decode cX4_toHear 25 = .ok (.getfield 15, 3) := by decide +kernel
theorem dX4_toHear_28 : decode cX4_toHear 28 = .ok (.getfield 38, 3) := by decide +kernel
theorem dX4_toHear_31 : decode cX4_toHear 31 = .ok (.iand, 1) := by decide +kernel
theorem dX4_toHear_32 : decode cX4_toHear 32 = .ok (.ifCond .eq 7, 3) := by decide +kernel
theorem dX4_toHear_35 : decode cX4_toHear 35 = .ok (.iconst 1, 1) := by decide +kernel
theorem dX4_toHear_36 : decode cX4_toHear 36 = .ok (.goto 4, 3) := by decide +kernel
theorem dX4_toHear_39 : decode cX4_toHear 39 = .ok (.iconst 2, 1) := by decide +kernel
theorem dX4_toHear_40 : decode cX4_toHear 40 = .ok (.ireturn, 1) := by decide +kernel
set_option maxRecDepth 20000 in
theorem ggX4_toGet_X4_toHaveOn : GoodIn wsX4_toGet wsX4_toHaveOn := goodIn_r _ [8, 1, 9, 10, 11, 12, 13, 14, 15, 16, 17, 18] (by decide +kernel) (by decide +kernel)
set_option maxRecDepth 20000 in
theorem gX4_toGet_X4_toHaveOn : GoodIn wsX4_toGet (wsV RX4 47 RX4 yX4_toHaveOn wsX4_toHaveOn) := goodIn_app (goodIn_of _ (by decide +kernel)) ggX4_toGet_X4_toHaveOn
theorem dX4_toGet_0 : decode cX4_toGet 0 = .ok (.aload_n 0, 1) := by decide +kernel
theorem dX4_toGet_1 : decode cX4_toGet 1 = .ok (.getfield 15, 3) := by decide +kernel
theorem dX4_toGet_4 : decode cX4_toGet 4 = .ok (.getfield 59, 3) := by decide +kernel
theorem dX4_toGet_7 : decode cX4_toGet 7 = .ok (.getfield 68, 3) := by decide +kernel
theorem dX4_toGet_10 : decode cX4_toGet 10 = .ok (.iload_n 3, 1) := by decide +kernel
theorem dX4_toGet_11 : decode cX4_toGet 11 = .ok (.iaload, 1) := by decide +kernel
theorem dX4_toGet_12 : decode cX4_toGet 12 = .ok (.istore 4, 2) := by decide +kernel
theorem dX4_toGet_14 : decode cX4_toGet 14 = .ok (.iload 4, 2) := by decide +kernel
theorem dX4_toGet_16 : decode cX4_toGet 16 = .ok (.iload_n 1, 1) := by decide +kernel
theorem dX4_toGet_17 : decode cX4_toGet 17 = .ok (.if_icmp .ne 5, 3) := by decide +kernel
theorem dX4_toGet_20 : decode cX4_toGet 20 = .ok (.iconst 0, 1) := by decide +kernel
theorem dX4_toGet_21 : decode cX4_toGet 21 = .ok (.ireturn, 1) := by decide +kernel
theorem dX4_toGet_22 : decode cX4_toGet 22 = .ok (.iload 4, 2) := by decide +kernel
theorem dX4_toGet_24 : decode cX4_toGet 24 = .ok (.iconst (-1), 1) := by decide +kernel
theorem dX4_toGet_25 : decode cX4_toGet 25 = .ok (.if_icmp .eq 9, 3) := by decide +kernel
theorem dX4_toGet_28 : decode cX4_toGet 28 = .ok (.iload 4, 2) := by decide +kernel
theorem dX4_toGet_30 : decode cX4_toGet 30 = .ok (.iload_n 2, 1) := by decide +kernel
theorem dX4_toGet_31 : decode cX4_toGet 31 = .ok (.if_icmp .ne 5, 3) := by decide +kernel
theorem dX4_toGet_34 : decode cX4_toGet 34 = .ok (.iconst 1, 1) := by decide +kernel
theorem dX4_toGet_35 : decode cX4_toGet 35 = .ok (.ireturn, 1) := by decide +kernel
theorem dX4_toGet_36 : decode cX4_toGet 36 = .ok (.aload_n 0, 1) := by decide +kernel
theorem dX4_toGet_37 : decode cX4_toGet 37 = .ok (.iload 4, 2) := by decide +kernel
theorem dX4_toGet_39 : decode cX4_toGet 39 = .ok (.invokevirtual 47, 3) := by decide +kernel
theorem dX4_toGet_42 : decode cX4_toGet 42 = .ok (.iconst 1, 1) := by decide +kernel
theorem dX4_toGet_43 : decode cX4_toGet 43 = .ok (.iadd, 1) := by decide +kernel
theorem dX4_toGet_44 : decode cX4_toGet 44 = .ok (.ireturn, 1) := by decide +kernel
set_option maxRecDepth 20000 in
theorem ggX5_init_X2_init : GoodIn wsX5_init wsX2_init := goodIn_r _ [10, 11, 2, 3, 12, 13, 14, 15, 16, 17, 18, 19, 20] (by decide +kernel) (by decide +kernel)
set_option maxRecDepth 20000 in
theorem gX5_init_X2_init : GoodIn wsX5_init (wsX2_init) := ggX5_init_X2_init
theorem dX5_init_0 : decode cX5_init 0 = .ok (.aload_n 0, 1) := by decide +kernel
theorem dX5_init_1 : decode cX5_init 1 = .ok (.invokespecial 1, 3) := by decide +kernel
theorem dX5_init_4 : decode cX5_init 4 = .ok (.aload_n 0, 1) := by decide +kernel
theorem dX5_init_5 : decode cX5_init 5 = .ok (.new 7, 3) := by decide +kernel
theorem dX5_init_8 : decode cX5_init 8 = .ok (.dup, 1) := by decide +kernel
theorem dX5_init_9 : decode cX5_init 9 = .ok (.invokespecial 9, 3) := by decide +kernel
theorem dX5_init_12 : decode cX5_init 12 = .ok (.putfield 10, 3) := by decide +kernel
theorem dX5_init_15 : decode cX5_init 15 = .ok (.return_, 1) := by decide +kernel
theorem dX6_init_0 : decode cX6_init 0 = .ok (.aload_n 0, 1) := by decide +kernel
theorem dX6_init_1 : decode cX6_init 1 = .ok (.invokespecial 3, 3) := by decide +kernel
theorem dX6_init_4 : decode cX6_init 4 = .ok (.aload_n 0, 1) := by decide +kernel
theorem dX6_init_5 : decode cX6_init 5 = .ok (.bipush 64, 2) := by decide +kernel
theorem dX6_init_7 : decode cX6_init 7 = .ok (.newarray .long, 2) := by decide +kernel
theorem dX6_init_9 : decode cX6_init 9 = .ok (.putfield 9, 3) := by decide +kernel
theorem dX6_init_12 : decode cX6_init 12 = .ok (.aload_n 0, 1) := by decide +kernel
theorem dX6_init_13 : decode cX6_init 13 = .ok (.bipush 64, 2) := by decide +kernel
theorem dX6_init_15 : decode cX6_init 15 = .ok (.newarray .long, 2) := by decide +kernel
theorem dX6_init_17 : decode cX6_init 17 = .ok (.putfield 15, 3) := by decide +kernel
theorem dX6_init_20 : decode cX6_init 20 = .ok (.aload_n 0, 1) := by decide +kernel
theorem dX6_init_21 : decode cX6_init 21 = .ok (.aload_n 1, 1) := by decide +kernel
theorem dX6_init_22 : decode cX6_init 22 = .ok (.putfield 18, 3) := by decide +kernel
theorem dX6_init_25 : decode cX6_init 25 = .ok (.aload_n 0, 1) := by decide +kernel
theorem dX6_init_26 : decode cX6_init 26 = .ok (.aload_n 2, 1) := by decide +kernel
theorem dX6_init_27 : decode cX6_init 27 = .ok (.putfield 22, 3) := by decide +kernel
theorem dX6_init_30 : decode cX6_init 30 = .ok (.return_, 1) := by decide +kernel
set_option maxRecDepth 20000 in
theorem ggX6_movesTo_J7_fill_d0a16 : GoodIn wsX6_movesTo wsJ7_fill_d0a16 := goodIn_r _ [9] (by decide +kernel) (by decide +kernel)
set_option maxRecDepth 20000 in
theorem gX6_movesTo_J7_fill_d0a16 : GoodIn wsX6_movesTo (va_wsS RX6 32 yJ7_fill_d0a16 wsJ7_fill_d0a16) := goodIn_app (goodIn_of _ (by decide +kernel)) ggX6_movesTo_J7_fill_d0a16
set_option maxRecDepth 20000 in
theorem ggX6_movesTo_X6_caseNow : GoodIn wsX6_movesTo wsX6_caseNow := goodIn_r _ [14, 1, 15, 16, 4, 17, 18, 19, 70, 71, 72, 73, 74, 75, 76, 77, 78, 79, 80, 81, 82, 83, 84] (by decide +kernel) (by decide +kernel)
set_option maxRecDepth 20000 in
theorem gX6_movesTo_X6_caseNow : GoodIn wsX6_movesTo (wsV RX6 43 RX6 yX6_caseNow wsX6_caseNow) := goodIn_app (goodIn_of _ (by decide +kernel)) ggX6_movesTo_X6_caseNow
set_option maxRecDepth 20000 in
theorem ggX6_movesTo_X6_isInReach : GoodIn wsX6_movesTo wsX6_isInReach := goodIn_r _ [23, 3, 24, 25, 26, 13, 27, 1, 28, 29, 16, 30, 31, 32, 33, 34, 70, 71, 72, 73, 74, 75, 76, 77, 78] (by decide +kernel) (by decide +kernel)
set_option maxRecDepth 20000 in
theorem gX6_movesTo_X6_isInReach : GoodIn wsX6_movesTo (wsV RX6 47 RX6 yX6_isInReach wsX6_isInReach) := goodIn_app (goodIn_of _ (by decide +kernel)) ggX6_movesTo_X6_isInReach
set_option maxRecDepth 20000 in
theorem ggX6_movesTo_X6_tryOneMoreMove : GoodIn wsX6_movesTo wsX6_tryOneMoreMove := goodIn_r _ [38, 1, 16, 15, 3, 39, 40, 41, 42, 43, 44, 45, 46, 47, 48, 49, 50, 51, 52, 53, 54, 55, 56, 57, 58, 59, 13, 60, 4, 61, 32, 33, 34, 62, 63, 64, 65, 31, 30, 66, 67, 68, 69, 70, 71, 72, 73, 74, 75, 76, 77, 78, 79, 80, 81, 82] (by decide +kernel) (by decide +kernel)
set_option maxRecDepth 20000 in
theorem gX6_movesTo_X6_tryOneMoreMove : GoodIn wsX6_movesTo (wsV RX6 51 RX6 yX6_tryOneMoreMove wsX6_tryOneMoreMove) := goodIn_app (goodIn_of _ (by decide +kernel)) ggX6_movesTo_X6_tryOneMoreMove
theorem dX6_movesTo_0 : decode cX6_movesTo 0 = .ok (.iload_n 1, 1) := by decide +kernel
theorem dX6_movesTo_1 : decode cX6_movesTo 1 = .ok (.ifCond .lt 14, 3) := by decide +kernel
theorem dX6_movesTo_4 : decode cX6_movesTo 4 = .ok (.iload_n 1, 1) := by decide +kernel
theorem dX6_movesTo_5 : decode cX6_movesTo 5 = .ok (.aload_n 0, 1) := by decide +kernel
theorem dX6_movesTo_6 : decode cX6_movesTo 6 = .ok (.getfield 18, 3) := by decide +kernel
theorem dX6_movesTo_9 : decode cX6_movesTo 9 = .ok (.getfield 26, 3) := by decide +kernel
theorem dX6_movesTo_12 : decode cX6_movesTo 12 = .ok (.if_icmp .lt 5, 3) := by decide +kernel
theorem dX6_movesTo_15 : decode cX6_movesTo 15 = .ok (.iconst (-1), 1) := by decide +kernel
theorem dX6_movesTo_16 : decode cX6_movesTo 16 = .ok (.ireturn, 1) := by decide +kernel
theorem dX6_movesTo_17 : decode cX6_movesTo 17 = .ok (.aload_n 0, 1) := by decide +kernel
theorem dX6_movesTo_18 : decode cX6_movesTo 18 = .ok (.getfield 9, 3) := by decide +kernel
theorem dX6_movesTo_21 : decode cX6_movesTo 21 = .ok (.lconst 0, 1) := by decide +kernel
theorem dX6_movesTo_22 : decode cX6_movesTo 22 = .ok (.invokestatic 32, 3) := by decide +kernel
theorem dX6_movesTo_25 : decode cX6_movesTo 25 = .ok (.aload_n 0, 1) := by decide +kernel
theorem dX6_movesTo_26 : decode cX6_movesTo 26 = .ok (.getfield 9, 3) := by decide +kernel
theorem dX6_movesTo_29 : decode cX6_movesTo 29 = .ok (.aload_n 0, 1) := by decide +kernel
theorem dX6_movesTo_30 : decode cX6_movesTo 30 = .ok (.getfield 22, 3) := by decide +kernel
theorem dX6_movesTo_33 : decode cX6_movesTo 33 = .ok (.getfield 38, 3) := by decide +kernel
theorem dX6_movesTo_36 : decode cX6_movesTo 36 = .ok (.bipush 63, 2) := by decide +kernel
theorem dX6_movesTo_38 : decode cX6_movesTo 38 = .ok (.iand, 1) := by decide +kernel
theorem dX6_movesTo_39 : decode cX6_movesTo 39 = .ok (.lconst 1, 1) := by decide +kernel
theorem dX6_movesTo_40 : decode cX6_movesTo 40 = .ok (.aload_n 0, 1) := by decide +kernel
theorem dX6_movesTo_41 : decode cX6_movesTo 41 = .ok (.iload_n 1, 1) := by decide +kernel
theorem dX6_movesTo_42 : decode cX6_movesTo 42 = .ok (.invokevirtual 43, 3) := by decide +kernel
theorem dX6_movesTo_45 : decode cX6_movesTo 45 = .ok (.lshl, 1) := by decide +kernel
theorem dX6_movesTo_46 : decode cX6_movesTo 46 = .ok (.lastore, 1) := by decide +kernel
theorem dX6_movesTo_47 : decode cX6_movesTo 47 = .ok (.iconst 1, 1) := by decide +kernel
theorem dX6_movesTo_48 : decode cX6_movesTo 48 = .ok (.istore_n 2, 1) := by decide +kernel
theorem dX6_movesTo_49 : decode cX6_movesTo 49 = .ok (.iload_n 2, 1) := by decide +kernel
theorem dX6_movesTo_50 : decode cX6_movesTo 50 = .ok (.bipush 64, 2) := by decide +kernel
theorem dX6_movesTo_52 : decode cX6_movesTo 52 = .ok (.if_icmp .gt 24, 3) := by decide +kernel
theorem dX6_movesTo_55 : decode cX6_movesTo 55 = .ok (.aload_n 0, 1) := by decide +kernel
theorem dX6_movesTo_56 : decode cX6_movesTo 56 = .ok (.iload_n 1, 1) := by decide +kernel
theorem dX6_movesTo_57 : decode cX6_movesTo 57 = .ok (.invokevirtual 47, 3) := by decide +kernel
theorem dX6_movesTo_60 : decode cX6_movesTo 60 = .ok (.ifCond .eq 5, 3) := by decide +kernel
theorem dX6_movesTo_63 : decode cX6_movesTo 63 = .ok (.iload_n 2, 1) := by decide +kernel
theorem dX6_movesTo_64 : decode cX6_movesTo 64 = .ok (.ireturn, 1) := by decide +kernel
theorem dX6_movesTo_65 : decode cX6_movesTo 65 = .ok (.aload_n 0, 1) := by decide +kernel
theorem dX6_movesTo_66 : decode cX6_movesTo 66 = .ok (.iload_n 1, 1) := by decide +kernel
theorem dX6_movesTo_67 : decode cX6_movesTo 67 = .ok (.invokevirtual 51, 3) := by decide +kernel
theorem dX6_movesTo_70 : decode cX6_movesTo 70 = .ok (.iinc 2 1, 3) := by decide +kernel
theorem dX6_movesTo_73 : decode cX6_movesTo 73 = .ok (.goto (-24), 3) := by decide +kernel
theorem dX6_movesTo_76 : decode cX6_movesTo 76 = .ok (.iconst (-1), 1) := by decide +kernel
theorem dX6_movesTo_77 : decode cX6_movesTo 77 = .ok (.ireturn, 1) := by decide +kernel
theorem dX6_caseNow_0 : decode cX6_caseNow 0 = .ok (.aload_n 0, 1) := by decide +kernel
theorem dX6_caseNow_1 : decode cX6_caseNow 1 = .ok (.getfield 18, 3) := by decide +kernel
theorem dX6_caseNow_4 : decode cX6_caseNow 4 = .ok (.getfield 55, 3) := by decide +kernel
theorem dX6_caseNow_7 : decode cX6_caseNow 7 = .ok (.iload_n 1, 1) := by decide +kernel
theorem dX6_caseNow_8 : decode cX6_caseNow 8 = .ok (.iaload, 1) := by decide +kernel
theorem dX6_caseNow_9 : decode cX6_caseNow 9 = .ok (.istore_n 2, 1) := by decide +kernel
theorem dX6_caseNow_10 : decode cX6_caseNow 10 = .ok (.aload_n 0, 1) := by decide +kernel
theorem dX6_caseNow_11 : decode cX6_caseNow 11 = .ok (.getfield 18, 3) := by decide +kernel
theorem dX6_caseNow_14 : decode cX6_caseNow 14 = .ok (.getfield 59, 3) := by decide +kernel
theorem dX6_caseNow_17 : decode cX6_caseNow 17 = .ok (.iload_n 1, 1) := by decide +kernel
theorem dX6_caseNow_18 : decode cX6_caseNow 18 = .ok (.iaload, 1) := by decide +kernel
theorem dX6_caseNow_19 : decode cX6_caseNow 19 = .ok (.lookupswitch 53 #[(0, 25), (1, 38)], 25) := by decide +kernel
theorem dX6_caseNow_44 : decode cX6_caseNow 44 = .ok (.aload_n 0, 1) := by decide +kernel
theorem dX6_caseNow_45 : decode cX6_caseNow 45 = .ok (.getfield 22, 3) := by decide +kernel
theorem dX6_caseNow_48 : decode cX6_caseNow 48 = .ok (.getfield 62, 3) := by decide +kernel
theorem dX6_caseNow_51 : decode cX6_caseNow 51 = .ok (.getfield 66, 3) := by decide +kernel
theorem dX6_caseNow_54 : decode cX6_caseNow 54 = .ok (.iload_n 2, 1) := by decide +kernel
theorem dX6_caseNow_55 : decode cX6_caseNow 55 = .ok (.iaload, 1) := by decide +kernel
theorem dX6_caseNow_56 : decode cX6_caseNow 56 = .ok (.ireturn, 1) := by decide +kernel
theorem dX6_caseNow_57 : decode cX6_caseNow 57 = .ok (.aload_n 0, 1) := by decide +kernel
theorem dX6_caseNow_58 : decode cX6_caseNow 58 = .ok (.getfield 22, 3) := by decide +kernel
theorem dX6_caseNow_61 : decode cX6_caseNow 61 = .ok (.getfield 62, 3) := by decide +kernel
theorem dX6_caseNow_64 : decode cX6_caseNow 64 = .ok (.getfield 71, 3) := by decide +kernel
theorem dX6_caseNow_67 : decode cX6_caseNow 67 = .ok (.iload_n 2, 1) := by decide +kernel
theorem dX6_caseNow_68 : decode cX6_caseNow 68 = .ok (.iaload, 1) := by decide +kernel
theorem dX6_caseNow_69 : decode cX6_caseNow 69 = .ok (.iconst 1, 1) := by decide +kernel
theorem dX6_caseNow_70 : decode cX6_caseNow 70 = .ok (.iadd, 1) := by decide +kernel
theorem dX6_caseNow_71 : decode cX6_caseNow 71 = .ok (.ireturn, 1) := by decide +kernel
theorem dX6_caseNow_72 : decode cX6_caseNow 72 = .ok (.iconst 0, 1) := by decide +kernel
theorem dX6_caseNow_73 : decode cX6_caseNow 73 = .ok (.ireturn, 1) := by decide +kernel
set_option maxRecDepth 20000 in
theorem ggX6_isInReach_X6_casesThatDo : GoodIn wsX6_isInReach wsX6_casesThatDo := goodIn_r _ [6, 7, 8, 9, 10, 11, 12, 13, 14, 15, 16, 17, 18, 19, 20, 21, 22, 23, 24] (by decide +kernel) (by decide +kernel)
set_option maxRecDepth 20000 in
theorem gX6_isInReach_X6_casesThatDo : GoodIn wsX6_isInReach (wsV RX6 74 RX6 yX6_casesThatDo wsX6_casesThatDo) := goodIn_app (goodIn_of _ (by decide +kernel)) ggX6_isInReach_X6_casesThatDo
theorem dX6_isInReach_0 : decode cX6_isInReach 0 = .ok (.iconst 0, 1) := by decide +kernel
theorem dX6_isInReach_1 : decode cX6_isInReach 1 = .ok (.istore_n 2, 1) := by decide +kernel
theorem dX6_isInReach_2 : decode cX6_isInReach 2 = .ok (.iload_n 2, 1) := by decide +kernel
theorem dX6_isInReach_3 : decode cX6_isInReach 3 = .ok (.bipush 64, 2) := by decide +kernel
theorem dX6_isInReach_5 : decode cX6_isInReach 5 = .ok (.if_icmp .ge 40, 3) := by decide +kernel
theorem dX6_isInReach_8 : decode cX6_isInReach 8 = .ok (.aload_n 0, 1) := by decide +kernel
theorem dX6_isInReach_9 : decode cX6_isInReach 9 = .ok (.getfield 9, 3) := by decide +kernel
theorem dX6_isInReach_12 : decode cX6_isInReach 12 = .ok (.iload_n 2, 1) := by decide +kernel
theorem dX6_isInReach_13 : decode cX6_isInReach 13 = .ok (.laload, 1) := by decide +kernel
theorem dX6_isInReach_14 : decode cX6_isInReach 14 = .ok (.lconst 0, 1) := by decide +kernel
theorem dX6_isInReach_15 : decode cX6_isInReach 15 = .ok (.lcmp, 1) := by decide +kernel
theorem dX6_isInReach_16 : decode cX6_isInReach 16 = .ok (.ifCond .eq 23, 3) := by decide +kernel
theorem dX6_isInReach_19 : decode cX6_isInReach 19 = .ok (.aload_n 0, 1) := by decide +kernel
theorem dX6_isInReach_20 : decode cX6_isInReach 20 = .ok (.getfield 9, 3) := by decide +kernel
theorem dX6_isInReach_23 : decode cX6_isInReach 23 = .ok (.iload_n 2, 1) := by decide +kernel
theorem dX6_isInReach_24 : decode cX6_isInReach 24 = .ok (.laload, 1) := by decide +kernel
theorem dX6_isInReach_25 : decode cX6_isInReach 25 = .ok (.aload_n 0, 1) := by decide +kernel
theorem dX6_isInReach_26 : decode cX6_isInReach 26 = .ok (.iload_n 1, 1) := by decide +kernel
theorem dX6_isInReach_27 : decode cX6_isInReach 27 = .ok (.iload_n 2, 1) := by decide +kernel
theorem dX6_isInReach_28 : decode cX6_isInReach 28 = .ok (.invokevirtual 74, 3) := by decide +kernel
theorem dX6_isInReach_31 : decode cX6_isInReach 31 = .ok (.land, 1) := by decide +kernel
theorem dX6_isInReach_32 : decode cX6_isInReach 32 = .ok (.lconst 0, 1) := by decide +kernel
theorem dX6_isInReach_33 : decode cX6_isInReach 33 = .ok (.lcmp, 1) := by decide +kernel
theorem dX6_isInReach_34 : decode cX6_isInReach 34 = .ok (.ifCond .eq 5, 3) := by decide +kernel
theorem dX6_isInReach_37 : decode cX6_isInReach 37 = .ok (.iconst 1, 1) := by decide +kernel
theorem dX6_isInReach_38 : decode cX6_isInReach 38 = .ok (.ireturn, 1) := by decide +kernel
theorem dX6_isInReach_39 : decode cX6_isInReach 39 = .ok (.iinc 2 1, 3) := by decide +kernel
theorem dX6_isInReach_42 : decode cX6_isInReach 42 = .ok (.goto (-40), 3) := by decide +kernel
theorem dX6_isInReach_45 : decode cX6_isInReach 45 = .ok (.iconst 0, 1) := by decide +kernel
theorem dX6_isInReach_46 : decode cX6_isInReach 46 = .ok (.ireturn, 1) := by decide +kernel
set_option maxRecDepth 20000 in
theorem ggX6_casesThatDo_X7_isIn : GoodIn wsX6_casesThatDo wsX7_isIn := goodIn_r _ [9] (by decide +kernel) (by decide +kernel)
set_option maxRecDepth 20000 in
theorem gX6_casesThatDo_X7_isIn_n84 : GoodIn wsX6_casesThatDo (wsX7_isIn) := ggX6_casesThatDo_X7_isIn
theorem dX6_casesThatDo_0 : decode cX6_casesThatDo 0 = .ok (.aload_n 0, 1) := by decide +kernel
theorem dX6_casesThatDo_1 : decode cX6_casesThatDo 1 = .ok (.getfield 18, 3) := by decide +kernel
theorem dX6_casesThatDo_4 : decode cX6_casesThatDo 4 = .ok (.getfield 78, 3) := by decide +kernel
theorem dX6_casesThatDo_7 : decode cX6_casesThatDo 7 = .ok (.iload_n 1, 1) := by decide +kernel
theorem dX6_casesThatDo_8 : decode cX6_casesThatDo 8 = .ok (.iaload, 1) := by decide +kernel
theorem dX6_casesThatDo_9 : decode cX6_casesThatDo 9 = .ok (.istore_n 3, 1) := by decide +kernel
theorem dX6_casesThatDo_10 : decode cX6_casesThatDo 10 = .ok (.aload_n 0, 1) := by decide +kernel
theorem dX6_casesThatDo_11 : decode cX6_casesThatDo 11 = .ok (.getfield 18, 3) := by decide +kernel
theorem dX6_casesThatDo_14 : decode cX6_casesThatDo 14 = .ok (.getfield 81, 3) := by decide +kernel
theorem dX6_casesThatDo_17 : decode cX6_casesThatDo 17 = .ok (.iload_n 1, 1) := by decide +kernel
theorem dX6_casesThatDo_18 : decode cX6_casesThatDo 18 = .ok (.iaload, 1) := by decide +kernel
theorem dX6_casesThatDo_19 : decode cX6_casesThatDo 19 = .ok (.istore 4, 2) := by decide +kernel
theorem dX6_casesThatDo_21 : decode cX6_casesThatDo 21 = .ok (.aload_n 0, 1) := by decide +kernel
theorem dX6_casesThatDo_22 : decode cX6_casesThatDo 22 = .ok (.getfield 18, 3) := by decide +kernel
theorem dX6_casesThatDo_25 : decode cX6_casesThatDo 25 = .ok (.getfield 59, 3) := by decide +kernel
theorem dX6_casesThatDo_28 : decode cX6_casesThatDo 28 = .ok (.iload_n 1, 1) := by decide +kernel
theorem dX6_casesThatDo_29 : decode cX6_casesThatDo 29 = .ok (.iaload, 1) := by decide +kernel
theorem dX6_casesThatDo_30 : decode cX6_casesThatDo 30 = .ok (.istore 5, 2) := by decide +kernel
theorem dX6_casesThatDo_32 : decode cX6_casesThatDo 32 = .ok (.iload 5, 2) := by decide +kernel
theorem dX6_casesThatDo_34 : decode cX6_casesThatDo 34 = .ok (.iconst 2, 1) := by decide +kernel
theorem dX6_casesThatDo_35 : decode cX6_casesThatDo 35 = .ok (.if_icmp .ne 19, 3) := by decide +kernel
theorem dX6_casesThatDo_38 : decode cX6_casesThatDo 38 = .ok (.iload_n 2, 1) := by decide +kernel
theorem dX6_casesThatDo_39 : decode cX6_casesThatDo 39 = .ok (.iload_n 3, 1) := by decide +kernel
theorem dX6_casesThatDo_40 : decode cX6_casesThatDo 40 = .ok (.invokestatic 84, 3) := by decide +kernel
theorem dX6_casesThatDo_43 : decode cX6_casesThatDo 43 = .ok (.ifCond .eq 7, 3) := by decide +kernel
theorem dX6_casesThatDo_46 : decode cX6_casesThatDo 46 = .ok (.lconst 0, 1) := by decide +kernel
theorem dX6_casesThatDo_47 : decode cX6_casesThatDo 47 = .ok (.goto 6, 3) := by decide +kernel
theorem dX6_casesThatDo_50 : decode cX6_casesThatDo 50 = .ok (.ldc2_w 88, 3) := by decide +kernel
theorem dX6_casesThatDo_53 : decode cX6_casesThatDo 53 = .ok (.lreturn, 1) := by decide +kernel
theorem dX6_casesThatDo_54 : decode cX6_casesThatDo 54 = .ok (.iload 5, 2) := by decide +kernel
theorem dX6_casesThatDo_56 : decode cX6_casesThatDo 56 = .ok (.iconst 3, 1) := by decide +kernel
theorem dX6_casesThatDo_57 : decode cX6_casesThatDo 57 = .ok (.if_icmp .ne 19, 3) := by decide +kernel
theorem dX6_casesThatDo_60 : decode cX6_casesThatDo 60 = .ok (.iload_n 2, 1) := by decide +kernel
theorem dX6_casesThatDo_61 : decode cX6_casesThatDo 61 = .ok (.iload_n 3, 1) := by decide +kernel
theorem dX6_casesThatDo_62 : decode cX6_casesThatDo 62 = .ok (.invokestatic 84, 3) := by decide +kernel
theorem dX6_casesThatDo_65 : decode cX6_casesThatDo 65 = .ok (.ifCond .eq 9, 3) := by decide +kernel
theorem dX6_casesThatDo_68 : decode cX6_casesThatDo 68 = .ok (.ldc2_w 88, 3) := by decide +kernel
theorem dX6_casesThatDo_71 : decode cX6_casesThatDo 71 = .ok (.goto 4, 3) := by decide +kernel
theorem dX6_casesThatDo_74 : decode cX6_casesThatDo 74 = .ok (.lconst 0, 1) := by decide +kernel
theorem dX6_casesThatDo_75 : decode cX6_casesThatDo 75 = .ok (.lreturn, 1) := by decide +kernel
theorem dX6_casesThatDo_76 : decode cX6_casesThatDo 76 = .ok (.iload_n 2, 1) := by decide +kernel
theorem dX6_casesThatDo_77 : decode cX6_casesThatDo 77 = .ok (.iload_n 3, 1) := by decide +kernel
theorem dX6_casesThatDo_78 : decode cX6_casesThatDo 78 = .ok (.invokestatic 84, 3) := by decide +kernel
theorem dX6_casesThatDo_81 : decode cX6_casesThatDo 81 = .ok (.ifCond .eq 12, 3) := by decide +kernel
theorem dX6_casesThatDo_84 : decode cX6_casesThatDo 84 = .ok (.iload_n 2, 1) := by decide +kernel
theorem dX6_casesThatDo_85 : decode cX6_casesThatDo 85 = .ok (.iload 4, 2) := by decide +kernel
theorem dX6_casesThatDo_87 : decode cX6_casesThatDo 87 = .ok (.invokestatic 84, 3) := by decide +kernel
theorem dX6_casesThatDo_90 : decode cX6_casesThatDo 90 = .ok (.ifCond .ne 5, 3) := by decide +kernel
theorem dX6_casesThatDo_93 : decode cX6_casesThatDo 93 = .ok (.lconst 0, 1) := by decide +kernel
theorem dX6_casesThatDo_94 : decode cX6_casesThatDo 94 = .ok (.lreturn, 1) := by decide +kernel
theorem dX6_casesThatDo_95 : decode cX6_casesThatDo 95 = .ok (.iload 5, 2) := by decide +kernel
theorem dX6_casesThatDo_97 : decode cX6_casesThatDo 97 = .ok (.ifCond .ne 20, 3) := by decide +kernel
theorem dX6_casesThatDo_100 : decode cX6_casesThatDo 100 = .ok (.getstatic 90, 3) := by decide +kernel
theorem dX6_casesThatDo_103 : decode cX6_casesThatDo 103 = .ok (.iload_n 3, 1) := by decide +kernel
theorem dX6_casesThatDo_104 : decode cX6_casesThatDo 104 = .ok (.laload, 1) := by decide +kernel
theorem dX6_casesThatDo_105 : decode cX6_casesThatDo 105 = .ok (.getstatic 90, 3) := by decide +kernel
theorem dX6_casesThatDo_108 : decode cX6_casesThatDo 108 = .ok (.iload 4, 2) := by decide +kernel
theorem dX6_casesThatDo_110 : decode cX6_casesThatDo 110 = .ok (.laload, 1) := by decide +kernel
theorem dX6_casesThatDo_111 : decode cX6_casesThatDo 111 = .ok (.ldc2_w 88, 3) := by decide +kernel
theorem dX6_casesThatDo_114 : decode cX6_casesThatDo 114 = .ok (.lxor, 1) := by decide +kernel
theorem dX6_casesThatDo_115 : decode cX6_casesThatDo 115 = .ok (.land, 1) := by decide +kernel
theorem dX6_casesThatDo_116 : decode cX6_casesThatDo 116 = .ok (.lreturn, 1) := by decide +kernel
theorem dX6_casesThatDo_117 : decode cX6_casesThatDo 117 = .ok (.iload 5, 2) := by decide +kernel
theorem dX6_casesThatDo_119 : decode cX6_casesThatDo 119 = .ok (.iconst 1, 1) := by decide +kernel
theorem dX6_casesThatDo_120 : decode cX6_casesThatDo 120 = .ok (.if_icmp .ne 11, 3) := by decide +kernel
theorem dX6_casesThatDo_123 : decode cX6_casesThatDo 123 = .ok (.lconst 1, 1) := by decide +kernel
theorem dX6_casesThatDo_124 : decode cX6_casesThatDo 124 = .ok (.iload_n 3, 1) := by decide +kernel
theorem dX6_casesThatDo_125 : decode cX6_casesThatDo 125 = .ok (.iconst 1, 1) := by decide +kernel
theorem dX6_casesThatDo_126 : decode cX6_casesThatDo 126 = .ok (.iadd, 1) := by decide +kernel
theorem dX6_casesThatDo_127 : decode cX6_casesThatDo 127 = .ok (.lshl, 1) := by decide +kernel
theorem dX6_casesThatDo_128 : decode cX6_casesThatDo 128 = .ok (.goto 6, 3) := by decide +kernel
theorem dX6_casesThatDo_131 : decode cX6_casesThatDo 131 = .ok (.ldc2_w 88, 3) := by decide +kernel
theorem dX6_casesThatDo_134 : decode cX6_casesThatDo 134 = .ok (.lreturn, 1) := by decide +kernel
set_option maxRecDepth 20000 in
theorem ggX6_tryOneMoreMove_X0_listenersFrom : GoodIn wsX6_tryOneMoreMove wsX0_listenersFrom := goodIn_r _ [14, 15, 16, 17, 18, 19, 20, 21, 22, 47, 48, 49, 50, 51] (by decide +kernel) (by decide +kernel)
set_option maxRecDepth 20000 in
theorem gX6_tryOneMoreMove_X0_listenersFrom : GoodIn wsX6_tryOneMoreMove (wsV RX6 93 RX0 yX0_listenersFrom wsX0_listenersFrom) := goodIn_app (goodIn_of _ (by decide +kernel)) ggX6_tryOneMoreMove_X0_listenersFrom
set_option maxRecDepth 20000 in
theorem ggX6_tryOneMoreMove_X6_tryEntersAndExits : GoodIn wsX6_tryOneMoreMove wsX6_tryEntersAndExits := goodIn_r _ [27, 28, 29, 4, 5, 30, 31, 32, 43, 44, 45, 46, 52, 53, 54, 55] (by decide +kernel) (by decide +kernel)
set_option maxRecDepth 20000 in
theorem gX6_tryOneMoreMove_X6_tryEntersAndExits : GoodIn wsX6_tryOneMoreMove (wsV RX6 103 RX6 yX6_tryEntersAndExits wsX6_tryEntersAndExits) := goodIn_app (goodIn_of _ (by decide +kernel)) ggX6_tryOneMoreMove_X6_tryEntersAndExits
set_option maxRecDepth 20000 in
theorem ggX6_tryOneMoreMove_X6_casesAfterTelling : GoodIn wsX6_tryOneMoreMove wsX6_casesAfterTelling := goodIn_r _ [36, 5, 37, 38, 30, 31, 32, 43, 44, 45, 46] (by decide +kernel) (by decide +kernel)
set_option maxRecDepth 20000 in
theorem gX6_tryOneMoreMove_X6_casesAfterTelling : GoodIn wsX6_tryOneMoreMove (wsV RX6 106 RX6 yX6_casesAfterTelling wsX6_casesAfterTelling) := goodIn_app (goodIn_of _ (by decide +kernel)) ggX6_tryOneMoreMove_X6_casesAfterTelling
set_option maxRecDepth 20000 in
theorem ggX6_tryOneMoreMove_X6_casesAfterGiving : GoodIn wsX6_tryOneMoreMove wsX6_casesAfterGiving := goodIn_r _ [42, 5, 43, 44, 45, 46] (by decide +kernel) (by decide +kernel)
set_option maxRecDepth 20000 in
theorem gX6_tryOneMoreMove_X6_casesAfterGiving : GoodIn wsX6_tryOneMoreMove (wsV RX6 109 RX6 yX6_casesAfterGiving wsX6_casesAfterGiving) := goodIn_app (goodIn_of _ (by decide +kernel)) ggX6_tryOneMoreMove_X6_casesAfterGiving
theorem dX6_tryOneMoreMove_0 : decode cX6_tryOneMoreMove 0 = .ok (.aload_n 0, 1) := by decide +kernel
theorem dX6_tryOneMoreMove_1 : decode cX6_tryOneMoreMove 1 = .ok (.getfield 18, 3) := by decide +kernel
theorem dX6_tryOneMoreMove_4 : decode cX6_tryOneMoreMove 4 = .ok (.getfield 59, 3) := by decide +kernel
theorem dX6_tryOneMoreMove_7 : decode cX6_tryOneMoreMove 7 = .ok (.iload_n 1, 1) := by decide +kernel
theorem dX6_tryOneMoreMove_8 : decode cX6_tryOneMoreMove 8 = .ok (.iaload, 1) := by decide +kernel
theorem dX6_tryOneMoreMove_9 : decode cX6_tryOneMoreMove 9 = .ok (.istore_n 2, 1) := by decide +kernel
theorem dX6_tryOneMoreMove_10 : decode cX6_tryOneMoreMove 10 = .ok (.aload_n 0, 1) := by decide +kernel
theorem dX6_tryOneMoreMove_11 : decode cX6_tryOneMoreMove 11 = .ok (.getfield 18, 3) := by decide +kernel
theorem dX6_tryOneMoreMove_14 : decode cX6_tryOneMoreMove 14 = .ok (.iload_n 1, 1) := by decide +kernel
theorem dX6_tryOneMoreMove_15 : decode cX6_tryOneMoreMove 15 = .ok (.aload_n 0, 1) := by decide +kernel
theorem dX6_tryOneMoreMove_16 : decode cX6_tryOneMoreMove 16 = .ok (.getfield 18, 3) := by decide +kernel
theorem dX6_tryOneMoreMove_19 : decode cX6_tryOneMoreMove 19 = .ok (.getfield 55, 3) := by decide +kernel
theorem dX6_tryOneMoreMove_22 : decode cX6_tryOneMoreMove 22 = .ok (.iload_n 1, 1) := by decide +kernel
theorem dX6_tryOneMoreMove_23 : decode cX6_tryOneMoreMove 23 = .ok (.iaload, 1) := by decide +kernel
theorem dX6_tryOneMoreMove_24 : decode cX6_tryOneMoreMove 24 = .ok (.invokevirtual 93, 3) := by decide +kernel
theorem dX6_tryOneMoreMove_27 : decode cX6_tryOneMoreMove 27 = .ok (.istore_n 3, 1) := by decide +kernel
theorem dX6_tryOneMoreMove_28 : decode cX6_tryOneMoreMove 28 = .ok (.aload_n 0, 1) := by decide +kernel
theorem dX6_tryOneMoreMove_29 : decode cX6_tryOneMoreMove 29 = .ok (.getfield 9, 3) := by decide +kernel
theorem dX6_tryOneMoreMove_32 : decode cX6_tryOneMoreMove 32 = .ok (.iconst 0, 1) := by decide +kernel
theorem dX6_tryOneMoreMove_33 : decode cX6_tryOneMoreMove 33 = .ok (.aload_n 0, 1) := by decide +kernel
theorem dX6_tryOneMoreMove_34 : decode cX6_tryOneMoreMove 34 = .ok (.getfield 15, 3) := by decide +kernel
theorem dX6_tryOneMoreMove_37 : decode cX6_tryOneMoreMove 37 = .ok (.iconst 0, 1) := by decide +kernel
theorem dX6_tryOneMoreMove_38 : decode cX6_tryOneMoreMove 38 = .ok (.bipush 64, 2) := by decide +kernel
theorem dX6_tryOneMoreMove_40 : decode cX6_tryOneMoreMove 40 = .ok (.invokestatic 97, 3) := by decide +kernel
theorem dX6_tryOneMoreMove_43 : decode cX6_tryOneMoreMove 43 = .ok (.iconst 0, 1) := by decide +kernel
theorem dX6_tryOneMoreMove_44 : decode cX6_tryOneMoreMove 44 = .ok (.istore 4, 2) := by decide +kernel
theorem dX6_tryOneMoreMove_46 : decode cX6_tryOneMoreMove 46 = .ok (.iload 4, 2) := by decide +kernel
theorem dX6_tryOneMoreMove_48 : decode cX6_tryOneMoreMove 48 = .ok (.bipush 64, 2) := by decide +kernel
theorem dX6_tryOneMoreMove_50 : decode cX6_tryOneMoreMove 50 = .ok (.if_icmp .ge 72, 3) := by decide +kernel
theorem dX6_tryOneMoreMove_53 : decode cX6_tryOneMoreMove 53 = .ok (.aload_n 0, 1) := by decide +kernel
theorem dX6_tryOneMoreMove_54 : decode cX6_tryOneMoreMove 54 = .ok (.getfield 15, 3) := by decide +kernel
theorem dX6_tryOneMoreMove_57 : decode cX6_tryOneMoreMove 57 = .ok (.iload 4, 2) := by decide +kernel
theorem dX6_tryOneMoreMove_59 : decode cX6_tryOneMoreMove 59 = .ok (.laload, 1) := by decide +kernel
theorem dX6_tryOneMoreMove_60 : decode cX6_tryOneMoreMove 60 = .ok (.lconst 0, 1) := by decide +kernel
theorem dX6_tryOneMoreMove_61 : decode cX6_tryOneMoreMove 61 = .ok (.lcmp, 1) := by decide +kernel
theorem dX6_tryOneMoreMove_62 : decode cX6_tryOneMoreMove 62 = .ok (.ifCond .eq 54, 3) := by decide +kernel
theorem dX6_tryOneMoreMove_65 : decode cX6_tryOneMoreMove 65 = .ok (.aload_n 0, 1) := by decide +kernel
theorem dX6_tryOneMoreMove_66 : decode cX6_tryOneMoreMove 66 = .ok (.iload 4, 2) := by decide +kernel
theorem dX6_tryOneMoreMove_68 : decode cX6_tryOneMoreMove 68 = .ok (.invokevirtual 103, 3) := by decide +kernel
theorem dX6_tryOneMoreMove_71 : decode cX6_tryOneMoreMove 71 = .ok (.iload_n 2, 1) := by decide +kernel
theorem dX6_tryOneMoreMove_72 : decode cX6_tryOneMoreMove 72 = .ok (.ifCond .ne 23, 3) := by decide +kernel
theorem dX6_tryOneMoreMove_75 : decode cX6_tryOneMoreMove 75 = .ok (.aload_n 0, 1) := by decide +kernel
theorem dX6_tryOneMoreMove_76 : decode cX6_tryOneMoreMove 76 = .ok (.getfield 9, 3) := by decide +kernel
theorem dX6_tryOneMoreMove_79 : decode cX6_tryOneMoreMove 79 = .ok (.iload 4, 2) := by decide +kernel
theorem dX6_tryOneMoreMove_81 : decode cX6_tryOneMoreMove 81 = .ok (.dup2, 1) := by decide +kernel
theorem dX6_tryOneMoreMove_82 : decode cX6_tryOneMoreMove 82 = .ok (.laload, 1) := by decide +kernel
theorem dX6_tryOneMoreMove_83 : decode cX6_tryOneMoreMove 83 = .ok (.aload_n 0, 1) := by decide +kernel
theorem dX6_tryOneMoreMove_84 : decode cX6_tryOneMoreMove 84 = .ok (.iload 4, 2) := by decide +kernel
theorem dX6_tryOneMoreMove_86 : decode cX6_tryOneMoreMove 86 = .ok (.iload_n 3, 1) := by decide +kernel
theorem dX6_tryOneMoreMove_87 : decode cX6_tryOneMoreMove 87 = .ok (.invokevirtual 106, 3) := by decide +kernel
theorem dX6_tryOneMoreMove_90 : decode cX6_tryOneMoreMove 90 = .ok (.lor, 1) := by decide +kernel
theorem dX6_tryOneMoreMove_91 : decode cX6_tryOneMoreMove 91 = .ok (.lastore, 1) := by decide +kernel
theorem dX6_tryOneMoreMove_92 : decode cX6_tryOneMoreMove 92 = .ok (.goto 24, 3) := by decide +kernel
theorem dX6_tryOneMoreMove_95 : decode cX6_tryOneMoreMove 95 = .ok (.iload_n 2, 1) := by decide +kernel
theorem dX6_tryOneMoreMove_96 : decode cX6_tryOneMoreMove 96 = .ok (.iconst 1, 1) := by decide +kernel
theorem dX6_tryOneMoreMove_97 : decode cX6_tryOneMoreMove 97 = .ok (.if_icmp .ne 19, 3) := by decide +kernel
theorem dX6_tryOneMoreMove_100 : decode cX6_tryOneMoreMove 100 = .ok (.aload_n 0, 1) := by decide +kernel
theorem dX6_tryOneMoreMove_101 : decode cX6_tryOneMoreMove 101 = .ok (.getfield 9, 3) := by decide +kernel
theorem dX6_tryOneMoreMove_104 : decode cX6_tryOneMoreMove 104 = .ok (.iload 4, 2) := by decide +kernel
theorem dX6_tryOneMoreMove_106 : decode cX6_tryOneMoreMove 106 = .ok (.dup2, 1) := by decide +kernel
theorem dX6_tryOneMoreMove_107 : decode cX6_tryOneMoreMove 107 = .ok (.laload, 1) := by decide +kernel
theorem dX6_tryOneMoreMove_108 : decode cX6_tryOneMoreMove 108 = .ok (.aload_n 0, 1) := by decide +kernel
theorem dX6_tryOneMoreMove_109 : decode cX6_tryOneMoreMove 109 = .ok (.iload 4, 2) := by decide +kernel
theorem dX6_tryOneMoreMove_111 : decode cX6_tryOneMoreMove 111 = .ok (.invokevirtual 109, 3) := by decide +kernel
theorem dX6_tryOneMoreMove_114 : decode cX6_tryOneMoreMove 114 = .ok (.lor, 1) := by decide +kernel
theorem dX6_tryOneMoreMove_115 : decode cX6_tryOneMoreMove 115 = .ok (.lastore, 1) := by decide +kernel
theorem dX6_tryOneMoreMove_116 : decode cX6_tryOneMoreMove 116 = .ok (.iinc 4 1, 3) := by decide +kernel
theorem dX6_tryOneMoreMove_119 : decode cX6_tryOneMoreMove 119 = .ok (.goto (-73), 3) := by decide +kernel
theorem dX6_tryOneMoreMove_122 : decode cX6_tryOneMoreMove 122 = .ok (.return_, 1) := by decide +kernel
set_option maxRecDepth 20000 in
theorem ggX6_tryEntersAndExits_X7_isIn : GoodIn wsX6_tryEntersAndExits wsX7_isIn := goodIn_r _ [7] (by decide +kernel) (by decide +kernel)
set_option maxRecDepth 20000 in
theorem gX6_tryEntersAndExits_X7_isIn_n84 : GoodIn wsX6_tryEntersAndExits (wsX7_isIn) := ggX6_tryEntersAndExits_X7_isIn
theorem dX6_tryEntersAndExits_0 : decode cX6_tryEntersAndExits 0 = .ok (.iconst 0, 1) := by decide +kernel
theorem dX6_tryEntersAndExits_1 : decode cX6_tryEntersAndExits 1 = .ok (.istore_n 2, 1) := by decide +kernel
theorem dX6_tryEntersAndExits_2 : decode cX6_tryEntersAndExits 2 = .ok (.iload_n 2, 1) := by decide +kernel
theorem dX6_tryEntersAndExits_3 : decode cX6_tryEntersAndExits 3 = .ok (.bipush 6, 2) := by decide +kernel
theorem dX6_tryEntersAndExits_5 : decode cX6_tryEntersAndExits 5 = .ok (.if_icmp .ge 42, 3) := by decide +kernel
theorem dX6_tryEntersAndExits_8 : decode cX6_tryEntersAndExits 8 = .ok (.aload_n 0, 1) := by decide +kernel
theorem dX6_tryEntersAndExits_9 : decode cX6_tryEntersAndExits 9 = .ok (.getfield 22, 3) := by decide +kernel
theorem dX6_tryEntersAndExits_12 : decode cX6_tryEntersAndExits 12 = .ok (.getfield 113, 3) := by decide +kernel
theorem dX6_tryEntersAndExits_15 : decode cX6_tryEntersAndExits 15 = .ok (.iload_n 2, 1) := by decide +kernel
theorem dX6_tryEntersAndExits_16 : decode cX6_tryEntersAndExits 16 = .ok (.invokestatic 84, 3) := by decide +kernel
theorem dX6_tryEntersAndExits_19 : decode cX6_tryEntersAndExits 19 = .ok (.ifCond .ne 22, 3) := by decide +kernel
theorem dX6_tryEntersAndExits_22 : decode cX6_tryEntersAndExits 22 = .ok (.aload_n 0, 1) := by decide +kernel
theorem dX6_tryEntersAndExits_23 : decode cX6_tryEntersAndExits 23 = .ok (.getfield 9, 3) := by decide +kernel
theorem dX6_tryEntersAndExits_26 : decode cX6_tryEntersAndExits 26 = .ok (.iload_n 1, 1) := by decide +kernel
theorem dX6_tryEntersAndExits_27 : decode cX6_tryEntersAndExits 27 = .ok (.iconst 1, 1) := by decide +kernel
theorem dX6_tryEntersAndExits_28 : decode cX6_tryEntersAndExits 28 = .ok (.iload_n 2, 1) := by decide +kernel
theorem dX6_tryEntersAndExits_29 : decode cX6_tryEntersAndExits 29 = .ok (.ishl, 1) := by decide +kernel
theorem dX6_tryEntersAndExits_30 : decode cX6_tryEntersAndExits 30 = .ok (.ixor, 1) := by decide +kernel
theorem dX6_tryEntersAndExits_31 : decode cX6_tryEntersAndExits 31 = .ok (.dup2, 1) := by decide +kernel
theorem dX6_tryEntersAndExits_32 : decode cX6_tryEntersAndExits 32 = .ok (.laload, 1) := by decide +kernel
theorem dX6_tryEntersAndExits_33 : decode cX6_tryEntersAndExits 33 = .ok (.aload_n 0, 1) := by decide +kernel
theorem dX6_tryEntersAndExits_34 : decode cX6_tryEntersAndExits 34 = .ok (.getfield 15, 3) := by decide +kernel
theorem dX6_tryEntersAndExits_37 : decode cX6_tryEntersAndExits 37 = .ok (.iload_n 1, 1) := by decide +kernel
theorem dX6_tryEntersAndExits_38 : decode cX6_tryEntersAndExits 38 = .ok (.laload, 1) := by decide +kernel
theorem dX6_tryEntersAndExits_39 : decode cX6_tryEntersAndExits 39 = .ok (.lor, 1) := by decide +kernel
theorem dX6_tryEntersAndExits_40 : decode cX6_tryEntersAndExits 40 = .ok (.lastore, 1) := by decide +kernel
theorem dX6_tryEntersAndExits_41 : decode cX6_tryEntersAndExits 41 = .ok (.iinc 2 1, 3) := by decide +kernel
theorem dX6_tryEntersAndExits_44 : decode cX6_tryEntersAndExits 44 = .ok (.goto (-42), 3) := by decide +kernel
theorem dX6_tryEntersAndExits_47 : decode cX6_tryEntersAndExits 47 = .ok (.return_, 1) := by decide +kernel
set_option maxRecDepth 20000 in
theorem ggX6_casesAfterTelling_X7_isIn : GoodIn wsX6_casesAfterTelling wsX7_isIn := goodIn_r _ [6] (by decide +kernel) (by decide +kernel)
set_option maxRecDepth 20000 in
theorem gX6_casesAfterTelling_X7_isIn_n84 : GoodIn wsX6_casesAfterTelling (wsX7_isIn) := ggX6_casesAfterTelling_X7_isIn
theorem dX6_casesAfterTelling_0 : decode cX6_casesAfterTelling 0 = .ok (.lconst 0, 1) := by decide +kernel
theorem dX6_casesAfterTelling_1 : decode cX6_casesAfterTelling 1 = .ok (.lstore_n 3, 1) := by decide +kernel
theorem dX6_casesAfterTelling_2 : decode cX6_casesAfterTelling 2 = .ok (.iconst 0, 1) := by decide +kernel
theorem dX6_casesAfterTelling_3 : decode cX6_casesAfterTelling 3 = .ok (.istore 5, 2) := by decide +kernel
theorem dX6_casesAfterTelling_5 : decode cX6_casesAfterTelling 5 = .ok (.iload 5, 2) := by decide +kernel
theorem dX6_casesAfterTelling_7 : decode cX6_casesAfterTelling 7 = .ok (.bipush 6, 2) := by decide +kernel
theorem dX6_casesAfterTelling_9 : decode cX6_casesAfterTelling 9 = .ok (.if_icmp .ge 79, 3) := by decide +kernel
theorem dX6_casesAfterTelling_12 : decode cX6_casesAfterTelling 12 = .ok (.iconst 0, 1) := by decide +kernel
theorem dX6_casesAfterTelling_13 : decode cX6_casesAfterTelling 13 = .ok (.istore 6, 2) := by decide +kernel
theorem dX6_casesAfterTelling_15 : decode cX6_casesAfterTelling 15 = .ok (.iload 6, 2) := by decide +kernel
theorem dX6_casesAfterTelling_17 : decode cX6_casesAfterTelling 17 = .ok (.bipush 6, 2) := by decide +kernel
theorem dX6_casesAfterTelling_19 : decode cX6_casesAfterTelling 19 = .ok (.if_icmp .ge 63, 3) := by decide +kernel
theorem dX6_casesAfterTelling_22 : decode cX6_casesAfterTelling 22 = .ok (.iload_n 1, 1) := by decide +kernel
theorem dX6_casesAfterTelling_23 : decode cX6_casesAfterTelling 23 = .ok (.iload 5, 2) := by decide +kernel
theorem dX6_casesAfterTelling_25 : decode cX6_casesAfterTelling 25 = .ok (.invokestatic 84, 3) := by decide +kernel
theorem dX6_casesAfterTelling_28 : decode cX6_casesAfterTelling 28 = .ok (.ifCond .eq 48, 3) := by decide +kernel
theorem dX6_casesAfterTelling_31 : decode cX6_casesAfterTelling 31 = .ok (.iload_n 1, 1) := by decide +kernel
theorem dX6_casesAfterTelling_32 : decode cX6_casesAfterTelling 32 = .ok (.iload_n 2, 1) := by decide +kernel
theorem dX6_casesAfterTelling_33 : decode cX6_casesAfterTelling 33 = .ok (.iconst (-1), 1) := by decide +kernel
theorem dX6_casesAfterTelling_34 : decode cX6_casesAfterTelling 34 = .ok (.ixor, 1) := by decide +kernel
theorem dX6_casesAfterTelling_35 : decode cX6_casesAfterTelling 35 = .ok (.iand, 1) := by decide +kernel
theorem dX6_casesAfterTelling_36 : decode cX6_casesAfterTelling 36 = .ok (.iload 6, 2) := by decide +kernel
theorem dX6_casesAfterTelling_38 : decode cX6_casesAfterTelling 38 = .ok (.invokestatic 84, 3) := by decide +kernel
theorem dX6_casesAfterTelling_41 : decode cX6_casesAfterTelling 41 = .ok (.ifCond .eq 35, 3) := by decide +kernel
theorem dX6_casesAfterTelling_44 : decode cX6_casesAfterTelling 44 = .ok (.lload_n 3, 1) := by decide +kernel
theorem dX6_casesAfterTelling_45 : decode cX6_casesAfterTelling 45 = .ok (.aload_n 0, 1) := by decide +kernel
theorem dX6_casesAfterTelling_46 : decode cX6_casesAfterTelling 46 = .ok (.getfield 15, 3) := by decide +kernel
theorem dX6_casesAfterTelling_49 : decode cX6_casesAfterTelling 49 = .ok (.iload_n 1, 1) := by decide +kernel
theorem dX6_casesAfterTelling_50 : decode cX6_casesAfterTelling 50 = .ok (.laload, 1) := by decide +kernel
theorem dX6_casesAfterTelling_51 : decode cX6_casesAfterTelling 51 = .ok (.getstatic 90, 3) := by decide +kernel
theorem dX6_casesAfterTelling_54 : decode cX6_casesAfterTelling 54 = .ok (.iload 5, 2) := by decide +kernel
theorem dX6_casesAfterTelling_56 : decode cX6_casesAfterTelling 56 = .ok (.laload, 1) := by decide +kernel
theorem dX6_casesAfterTelling_57 : decode cX6_casesAfterTelling 57 = .ok (.land, 1) := by decide +kernel
theorem dX6_casesAfterTelling_58 : decode cX6_casesAfterTelling 58 = .ok (.getstatic 90, 3) := by decide +kernel
theorem dX6_casesAfterTelling_61 : decode cX6_casesAfterTelling 61 = .ok (.iload 6, 2) := by decide +kernel
theorem dX6_casesAfterTelling_63 : decode cX6_casesAfterTelling 63 = .ok (.laload, 1) := by decide +kernel
theorem dX6_casesAfterTelling_64 : decode cX6_casesAfterTelling 64 = .ok (.ldc2_w 88, 3) := by decide +kernel
theorem dX6_casesAfterTelling_67 : decode cX6_casesAfterTelling 67 = .ok (.lxor, 1) := by decide +kernel
