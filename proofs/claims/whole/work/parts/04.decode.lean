theorem dX8_inverts_4 : decode cX8_inverts 4 = .ok (.ifCond .gt 9, 3) := by decide +kernel
theorem dX8_inverts_7 : decode cX8_inverts 7 = .ok (.lload_n 3, 1) := by decide +kernel
theorem dX8_inverts_8 : decode cX8_inverts 8 = .ok (.lconst 0, 1) := by decide +kernel
theorem dX8_inverts_9 : decode cX8_inverts 9 = .ok (.lcmp, 1) := by decide +kernel
theorem dX8_inverts_10 : decode cX8_inverts 10 = .ok (.ifCond .ge 7, 3) := by decide +kernel
theorem dX8_inverts_13 : decode cX8_inverts 13 = .ok (.iconst 1, 1) := by decide +kernel
theorem dX8_inverts_14 : decode cX8_inverts 14 = .ok (.goto 4, 3) := by decide +kernel
theorem dX8_inverts_17 : decode cX8_inverts 17 = .ok (.iconst 0, 1) := by decide +kernel
theorem dX8_inverts_18 : decode cX8_inverts 18 = .ok (.putfield 92, 3) := by decide +kernel
theorem dX8_inverts_21 : decode cX8_inverts 21 = .ok (.aload_n 0, 1) := by decide +kernel
theorem dX8_inverts_22 : decode cX8_inverts 22 = .ok (.getfield 92, 3) := by decide +kernel
theorem dX8_inverts_25 : decode cX8_inverts 25 = .ok (.ifCond .eq 27, 3) := by decide +kernel
theorem dX8_inverts_28 : decode cX8_inverts 28 = .ok (.aload_n 0, 1) := by decide +kernel
theorem dX8_inverts_29 : decode cX8_inverts 29 = .ok (.lconst 1, 1) := by decide +kernel
theorem dX8_inverts_30 : decode cX8_inverts 30 = .ok (.iconst 2, 1) := by decide +kernel
theorem dX8_inverts_31 : decode cX8_inverts 31 = .ok (.iload 5, 2) := by decide +kernel
theorem dX8_inverts_33 : decode cX8_inverts 33 = .ok (.imul, 1) := by decide +kernel
theorem dX8_inverts_34 : decode cX8_inverts 34 = .ok (.lshl, 1) := by decide +kernel
theorem dX8_inverts_35 : decode cX8_inverts 35 = .ok (.lload_n 3, 1) := by decide +kernel
theorem dX8_inverts_36 : decode cX8_inverts 36 = .ok (.invokestatic 110, 3) := by decide +kernel
theorem dX8_inverts_39 : decode cX8_inverts 39 = .ok (.lconst 1, 1) := by decide +kernel
theorem dX8_inverts_40 : decode cX8_inverts 40 = .ok (.iconst 2, 1) := by decide +kernel
theorem dX8_inverts_41 : decode cX8_inverts 41 = .ok (.iload 5, 2) := by decide +kernel
theorem dX8_inverts_43 : decode cX8_inverts 43 = .ok (.imul, 1) := by decide +kernel
theorem dX8_inverts_44 : decode cX8_inverts 44 = .ok (.lshl, 1) := by decide +kernel
theorem dX8_inverts_45 : decode cX8_inverts 45 = .ok (.lload_n 1, 1) := by decide +kernel
theorem dX8_inverts_46 : decode cX8_inverts 46 = .ok (.invokestatic 113, 3) := by decide +kernel
theorem dX8_inverts_49 : decode cX8_inverts 49 = .ok (.invokevirtual 116, 3) := by decide +kernel
theorem dX8_inverts_52 : decode cX8_inverts 52 = .ok (.return_, 1) := by decide +kernel
set_option maxRecDepth 20000 in
theorem ggX8_roots_X8_most : GoodIn wsX8_roots wsX8_most := goodIn_r _ [4] (by decide +kernel) (by decide +kernel)
set_option maxRecDepth 20000 in
theorem gX8_roots_X8_most : GoodIn wsX8_roots (va_wsS RX8 107 yX8_most wsX8_most) := goodIn_app (goodIn_of _ (by decide +kernel)) ggX8_roots_X8_most
set_option maxRecDepth 20000 in
theorem ggX8_roots_X8_rootOf : GoodIn wsX8_roots wsX8_rootOf := goodIn_r _ [7] (by decide +kernel) (by decide +kernel)
set_option maxRecDepth 20000 in
theorem gX8_roots_X8_rootOf : GoodIn wsX8_roots (va_wsS RX8 120 yX8_rootOf wsX8_rootOf) := goodIn_app (goodIn_of _ (by decide +kernel)) ggX8_roots_X8_rootOf
set_option maxRecDepth 20000 in
theorem ggX8_roots_X8_sets : GoodIn wsX8_roots wsX8_sets := goodIn_r _ [11, 12, 13, 14, 15, 16, 17, 18, 19, 20, 21, 22, 23, 24, 25, 26, 27, 28, 29, 30, 31, 32, 33, 34, 35, 36, 37, 38, 39, 40, 41, 42] (by decide +kernel) (by decide +kernel)
set_option maxRecDepth 20000 in
theorem gX8_roots_X8_sets : GoodIn wsX8_roots (wsV RX8 116 RX8 yX8_sets wsX8_sets) := goodIn_app (goodIn_of _ (by decide +kernel)) ggX8_roots_X8_sets
theorem dX8_roots_0 : decode cX8_roots 0 = .ok (.lload_n 3, 1) := by decide +kernel
theorem dX8_roots_1 : decode cX8_roots 1 = .ok (.lconst 0, 1) := by decide +kernel
theorem dX8_roots_2 : decode cX8_roots 2 = .ok (.invokestatic 107, 3) := by decide +kernel
theorem dX8_roots_5 : decode cX8_roots 5 = .ok (.iload 5, 2) := by decide +kernel
theorem dX8_roots_7 : decode cX8_roots 7 = .ok (.lshl, 1) := by decide +kernel
theorem dX8_roots_8 : decode cX8_roots 8 = .ok (.lstore 6, 2) := by decide +kernel
theorem dX8_roots_10 : decode cX8_roots 10 = .ok (.lload 6, 2) := by decide +kernel
theorem dX8_roots_12 : decode cX8_roots 12 = .ok (.invokestatic 120, 3) := by decide +kernel
theorem dX8_roots_15 : decode cX8_roots 15 = .ok (.lstore 8, 2) := by decide +kernel
theorem dX8_roots_17 : decode cX8_roots 17 = .ok (.aload_n 0, 1) := by decide +kernel
theorem dX8_roots_18 : decode cX8_roots 18 = .ok (.lload_n 1, 1) := by decide +kernel
theorem dX8_roots_19 : decode cX8_roots 19 = .ok (.lconst 0, 1) := by decide +kernel
theorem dX8_roots_20 : decode cX8_roots 20 = .ok (.invokestatic 107, 3) := by decide +kernel
theorem dX8_roots_23 : decode cX8_roots 23 = .ok (.iload 5, 2) := by decide +kernel
theorem dX8_roots_25 : decode cX8_roots 25 = .ok (.lshl, 1) := by decide +kernel
theorem dX8_roots_26 : decode cX8_roots 26 = .ok (.invokestatic 120, 3) := by decide +kernel
theorem dX8_roots_29 : decode cX8_roots 29 = .ok (.lload 8, 2) := by decide +kernel
theorem dX8_roots_31 : decode cX8_roots 31 = .ok (.lload 8, 2) := by decide +kernel
theorem dX8_roots_33 : decode cX8_roots 33 = .ok (.lmul, 1) := by decide +kernel
theorem dX8_roots_34 : decode cX8_roots 34 = .ok (.lload 6, 2) := by decide +kernel
theorem dX8_roots_36 : decode cX8_roots 36 = .ok (.lcmp, 1) := by decide +kernel
theorem dX8_roots_37 : decode cX8_roots 37 = .ok (.ifCond .ge 10, 3) := by decide +kernel
theorem dX8_roots_40 : decode cX8_roots 40 = .ok (.lload 8, 2) := by decide +kernel
theorem dX8_roots_42 : decode cX8_roots 42 = .ok (.lconst 1, 1) := by decide +kernel
theorem dX8_roots_43 : decode cX8_roots 43 = .ok (.ladd, 1) := by decide +kernel
theorem dX8_roots_44 : decode cX8_roots 44 = .ok (.goto 5, 3) := by decide +kernel
theorem dX8_roots_47 : decode cX8_roots 47 = .ok (.lload 8, 2) := by decide +kernel
theorem dX8_roots_49 : decode cX8_roots 49 = .ok (.invokevirtual 116, 3) := by decide +kernel
theorem dX8_roots_52 : decode cX8_roots 52 = .ok (.return_, 1) := by decide +kernel
set_option maxRecDepth 20000 in
theorem ggX8_raises_X8_sets : GoodIn wsX8_raises wsX8_sets := goodIn_r _ [8, 1, 2, 3, 25, 26, 27, 28, 29, 30, 31, 32, 33, 34, 35, 36, 37, 38, 39, 40, 41, 42, 43, 44, 45, 46, 47, 48, 49, 50, 51, 52] (by decide +kernel) (by decide +kernel)
set_option maxRecDepth 20000 in
theorem gX8_raises_X8_sets : GoodIn wsX8_raises (wsV RX8 116 RX8 yX8_sets wsX8_sets) := goodIn_app (goodIn_of _ (by decide +kernel)) ggX8_raises_X8_sets
set_option maxRecDepth 20000 in
theorem ggX8_raises_X8_multiplies : GoodIn wsX8_raises wsX8_multiplies := goodIn_r _ [12, 13, 14, 7, 15, 16, 17, 18, 19, 20, 21, 22, 23, 24, 4, 5, 6, 8, 1, 2, 3, 25, 26, 27, 28, 29, 30, 31, 32, 33, 34, 35, 36, 37, 38, 39, 40, 41, 42, 43, 44, 45, 46, 47, 48, 49, 50, 51, 52] (by decide +kernel) (by decide +kernel)
set_option maxRecDepth 20000 in
theorem gX8_raises_X8_multiplies : GoodIn wsX8_raises (wsV RX8 124 RX8 yX8_multiplies wsX8_multiplies) := goodIn_app (goodIn_of _ (by decide +kernel)) ggX8_raises_X8_multiplies
set_option maxRecDepth 20000 in
theorem ggX8_raises_X8_cut : GoodIn wsX8_raises wsX8_cut := goodIn_r _ [21] (by decide +kernel) (by decide +kernel)
set_option maxRecDepth 20000 in
theorem gX8_raises_X8_cut : GoodIn wsX8_raises (va_wsS RX8 110 yX8_cut wsX8_cut) := goodIn_app (goodIn_of _ (by decide +kernel)) ggX8_raises_X8_cut
set_option maxRecDepth 20000 in
theorem ggX8_raises_X8_fill : GoodIn wsX8_raises wsX8_fill := goodIn_r _ [24] (by decide +kernel) (by decide +kernel)
set_option maxRecDepth 20000 in
theorem gX8_raises_X8_fill : GoodIn wsX8_raises (va_wsS RX8 113 yX8_fill wsX8_fill) := goodIn_app (goodIn_of _ (by decide +kernel)) ggX8_raises_X8_fill
theorem dX8_raises_0 : decode cX8_raises 0 = .ok (.lconst 1, 1) := by decide +kernel
theorem dX8_raises_1 : decode cX8_raises 1 = .ok (.iload 5, 2) := by decide +kernel
theorem dX8_raises_3 : decode cX8_raises 3 = .ok (.lshl, 1) := by decide +kernel
theorem dX8_raises_4 : decode cX8_raises 4 = .ok (.lstore 6, 2) := by decide +kernel
theorem dX8_raises_6 : decode cX8_raises 6 = .ok (.aload_n 0, 1) := by decide +kernel
theorem dX8_raises_7 : decode cX8_raises 7 = .ok (.lload_n 1, 1) := by decide +kernel
theorem dX8_raises_8 : decode cX8_raises 8 = .ok (.lload 6, 2) := by decide +kernel
theorem dX8_raises_10 : decode cX8_raises 10 = .ok (.lneg, 1) := by decide +kernel
theorem dX8_raises_11 : decode cX8_raises 11 = .ok (.lcmp, 1) := by decide +kernel
theorem dX8_raises_12 : decode cX8_raises 12 = .ok (.ifCond .lt 14, 3) := by decide +kernel
theorem dX8_raises_15 : decode cX8_raises 15 = .ok (.lload_n 3, 1) := by decide +kernel
theorem dX8_raises_16 : decode cX8_raises 16 = .ok (.lload 6, 2) := by decide +kernel
theorem dX8_raises_18 : decode cX8_raises 18 = .ok (.lcmp, 1) := by decide +kernel
theorem dX8_raises_19 : decode cX8_raises 19 = .ok (.ifCond .gt 7, 3) := by decide +kernel
theorem dX8_raises_22 : decode cX8_raises 22 = .ok (.iconst 1, 1) := by decide +kernel
theorem dX8_raises_23 : decode cX8_raises 23 = .ok (.goto 4, 3) := by decide +kernel
theorem dX8_raises_26 : decode cX8_raises 26 = .ok (.iconst 0, 1) := by decide +kernel
theorem dX8_raises_27 : decode cX8_raises 27 = .ok (.putfield 92, 3) := by decide +kernel
theorem dX8_raises_30 : decode cX8_raises 30 = .ok (.aload_n 0, 1) := by decide +kernel
theorem dX8_raises_31 : decode cX8_raises 31 = .ok (.getfield 92, 3) := by decide +kernel
theorem dX8_raises_34 : decode cX8_raises 34 = .ok (.ifCond .ne 4, 3) := by decide +kernel
theorem dX8_raises_37 : decode cX8_raises 37 = .ok (.return_, 1) := by decide +kernel
theorem dX8_raises_38 : decode cX8_raises 38 = .ok (.aload_n 0, 1) := by decide +kernel
theorem dX8_raises_39 : decode cX8_raises 39 = .ok (.lload 6, 2) := by decide +kernel
theorem dX8_raises_41 : decode cX8_raises 41 = .ok (.lload 6, 2) := by decide +kernel
theorem dX8_raises_43 : decode cX8_raises 43 = .ok (.invokevirtual 116, 3) := by decide +kernel
theorem dX8_raises_46 : decode cX8_raises 46 = .ok (.bipush 12, 2) := by decide +kernel
theorem dX8_raises_48 : decode cX8_raises 48 = .ok (.istore 8, 2) := by decide +kernel
theorem dX8_raises_50 : decode cX8_raises 50 = .ok (.iload 8, 2) := by decide +kernel
theorem dX8_raises_52 : decode cX8_raises 52 = .ok (.ifCond .le 55, 3) := by decide +kernel
theorem dX8_raises_55 : decode cX8_raises 55 = .ok (.aload_n 0, 1) := by decide +kernel
theorem dX8_raises_56 : decode cX8_raises 56 = .ok (.lload_n 1, 1) := by decide +kernel
theorem dX8_raises_57 : decode cX8_raises 57 = .ok (.lload_n 3, 1) := by decide +kernel
theorem dX8_raises_58 : decode cX8_raises 58 = .ok (.aload_n 0, 1) := by decide +kernel
theorem dX8_raises_59 : decode cX8_raises 59 = .ok (.getfield 96, 3) := by decide +kernel
theorem dX8_raises_62 : decode cX8_raises 62 = .ok (.aload_n 0, 1) := by decide +kernel
theorem dX8_raises_63 : decode cX8_raises 63 = .ok (.getfield 100, 3) := by decide +kernel
theorem dX8_raises_66 : decode cX8_raises 66 = .ok (.iload 5, 2) := by decide +kernel
theorem dX8_raises_68 : decode cX8_raises 68 = .ok (.invokevirtual 124, 3) := by decide +kernel
theorem dX8_raises_71 : decode cX8_raises 71 = .ok (.aload_n 0, 1) := by decide +kernel
theorem dX8_raises_72 : decode cX8_raises 72 = .ok (.aload_n 0, 1) := by decide +kernel
theorem dX8_raises_73 : decode cX8_raises 73 = .ok (.getfield 96, 3) := by decide +kernel
theorem dX8_raises_76 : decode cX8_raises 76 = .ok (.iload 8, 2) := by decide +kernel
theorem dX8_raises_78 : decode cX8_raises 78 = .ok (.i2l, 1) := by decide +kernel
theorem dX8_raises_79 : decode cX8_raises 79 = .ok (.invokestatic 110, 3) := by decide +kernel
theorem dX8_raises_82 : decode cX8_raises 82 = .ok (.lload 6, 2) := by decide +kernel
theorem dX8_raises_84 : decode cX8_raises 84 = .ok (.ladd, 1) := by decide +kernel
theorem dX8_raises_85 : decode cX8_raises 85 = .ok (.aload_n 0, 1) := by decide +kernel
theorem dX8_raises_86 : decode cX8_raises 86 = .ok (.getfield 100, 3) := by decide +kernel
theorem dX8_raises_89 : decode cX8_raises 89 = .ok (.iload 8, 2) := by decide +kernel
theorem dX8_raises_91 : decode cX8_raises 91 = .ok (.i2l, 1) := by decide +kernel
theorem dX8_raises_92 : decode cX8_raises 92 = .ok (.invokestatic 113, 3) := by decide +kernel
theorem dX8_raises_95 : decode cX8_raises 95 = .ok (.lload 6, 2) := by decide +kernel
theorem dX8_raises_97 : decode cX8_raises 97 = .ok (.ladd, 1) := by decide +kernel
theorem dX8_raises_98 : decode cX8_raises 98 = .ok (.invokevirtual 116, 3) := by decide +kernel
theorem dX8_raises_101 : decode cX8_raises 101 = .ok (.iinc 8 (-1), 3) := by decide +kernel
theorem dX8_raises_104 : decode cX8_raises 104 = .ok (.goto (-54), 3) := by decide +kernel
theorem dX8_raises_107 : decode cX8_raises 107 = .ok (.aload_n 0, 1) := by decide +kernel
theorem dX8_raises_108 : decode cX8_raises 108 = .ok (.aload_n 0, 1) := by decide +kernel
theorem dX8_raises_109 : decode cX8_raises 109 = .ok (.getfield 96, 3) := by decide +kernel
theorem dX8_raises_112 : decode cX8_raises 112 = .ok (.lconst 1, 1) := by decide +kernel
theorem dX8_raises_113 : decode cX8_raises 113 = .ok (.lsub, 1) := by decide +kernel
theorem dX8_raises_114 : decode cX8_raises 114 = .ok (.aload_n 0, 1) := by decide +kernel
theorem dX8_raises_115 : decode cX8_raises 115 = .ok (.getfield 100, 3) := by decide +kernel
theorem dX8_raises_118 : decode cX8_raises 118 = .ok (.lconst 1, 1) := by decide +kernel
theorem dX8_raises_119 : decode cX8_raises 119 = .ok (.ladd, 1) := by decide +kernel
theorem dX8_raises_120 : decode cX8_raises 120 = .ok (.invokevirtual 116, 3) := by decide +kernel
theorem dX8_raises_123 : decode cX8_raises 123 = .ok (.return_, 1) := by decide +kernel
theorem dX8_sign_0 : decode cX8_sign 0 = .ok (.lload_n 0, 1) := by decide +kernel
theorem dX8_sign_1 : decode cX8_sign 1 = .ok (.lconst 0, 1) := by decide +kernel
theorem dX8_sign_2 : decode cX8_sign 2 = .ok (.lcmp, 1) := by decide +kernel
theorem dX8_sign_3 : decode cX8_sign 3 = .ok (.ifCond .le 7, 3) := by decide +kernel
theorem dX8_sign_6 : decode cX8_sign 6 = .ok (.lconst 1, 1) := by decide +kernel
theorem dX8_sign_7 : decode cX8_sign 7 = .ok (.goto 16, 3) := by decide +kernel
theorem dX8_sign_10 : decode cX8_sign 10 = .ok (.lload_n 0, 1) := by decide +kernel
theorem dX8_sign_11 : decode cX8_sign 11 = .ok (.lconst 0, 1) := by decide +kernel
theorem dX8_sign_12 : decode cX8_sign 12 = .ok (.lcmp, 1) := by decide +kernel
theorem dX8_sign_13 : decode cX8_sign 13 = .ok (.ifCond .ge 9, 3) := by decide +kernel
theorem dX8_sign_16 : decode cX8_sign 16 = .ok (.ldc2_w 128, 3) := by decide +kernel
theorem dX8_sign_19 : decode cX8_sign 19 = .ok (.goto 4, 3) := by decide +kernel
theorem dX8_sign_22 : decode cX8_sign 22 = .ok (.lconst 0, 1) := by decide +kernel
theorem dX8_sign_23 : decode cX8_sign 23 = .ok (.lreturn, 1) := by decide +kernel
theorem dX8_valueOf_0 : decode cX8_valueOf 0 = .ok (.lconst 1, 1) := by decide +kernel
theorem dX8_valueOf_1 : decode cX8_valueOf 1 = .ok (.iload 4, 2) := by decide +kernel
theorem dX8_valueOf_3 : decode cX8_valueOf 3 = .ok (.lshl, 1) := by decide +kernel
theorem dX8_valueOf_4 : decode cX8_valueOf 4 = .ok (.lstore 5, 2) := by decide +kernel
theorem dX8_valueOf_6 : decode cX8_valueOf 6 = .ok (.aload_n 0, 1) := by decide +kernel
theorem dX8_valueOf_7 : decode cX8_valueOf 7 = .ok (.getfield 34, 3) := by decide +kernel
theorem dX8_valueOf_10 : decode cX8_valueOf 10 = .ok (.iload_n 1, 1) := by decide +kernel
theorem dX8_valueOf_11 : decode cX8_valueOf 11 = .ok (.iaload, 1) := by decide +kernel
theorem dX8_valueOf_12 : decode cX8_valueOf 12 = .ok (.i2l, 1) := by decide +kernel
theorem dX8_valueOf_13 : decode cX8_valueOf 13 = .ok (.lload_n 2, 1) := by decide +kernel
theorem dX8_valueOf_14 : decode cX8_valueOf 14 = .ok (.lmul, 1) := by decide +kernel
theorem dX8_valueOf_15 : decode cX8_valueOf 15 = .ok (.aload_n 0, 1) := by decide +kernel
theorem dX8_valueOf_16 : decode cX8_valueOf 16 = .ok (.getfield 31, 3) := by decide +kernel
theorem dX8_valueOf_19 : decode cX8_valueOf 19 = .ok (.iload_n 1, 1) := by decide +kernel
theorem dX8_valueOf_20 : decode cX8_valueOf 20 = .ok (.iaload, 1) := by decide +kernel
theorem dX8_valueOf_21 : decode cX8_valueOf 21 = .ok (.i2l, 1) := by decide +kernel
theorem dX8_valueOf_22 : decode cX8_valueOf 22 = .ok (.lload 5, 2) := by decide +kernel
theorem dX8_valueOf_24 : decode cX8_valueOf 24 = .ok (.lmul, 1) := by decide +kernel
theorem dX8_valueOf_25 : decode cX8_valueOf 25 = .ok (.ladd, 1) := by decide +kernel
theorem dX8_valueOf_26 : decode cX8_valueOf 26 = .ok (.lstore 7, 2) := by decide +kernel
theorem dX8_valueOf_28 : decode cX8_valueOf 28 = .ok (.lload 7, 2) := by decide +kernel
theorem dX8_valueOf_30 : decode cX8_valueOf 30 = .ok (.lload_n 2, 1) := by decide +kernel
theorem dX8_valueOf_31 : decode cX8_valueOf 31 = .ok (.lmul, 1) := by decide +kernel
theorem dX8_valueOf_32 : decode cX8_valueOf 32 = .ok (.aload_n 0, 1) := by decide +kernel
theorem dX8_valueOf_33 : decode cX8_valueOf 33 = .ok (.getfield 28, 3) := by decide +kernel
theorem dX8_valueOf_36 : decode cX8_valueOf 36 = .ok (.iload_n 1, 1) := by decide +kernel
theorem dX8_valueOf_37 : decode cX8_valueOf 37 = .ok (.iaload, 1) := by decide +kernel
theorem dX8_valueOf_38 : decode cX8_valueOf 38 = .ok (.i2l, 1) := by decide +kernel
theorem dX8_valueOf_39 : decode cX8_valueOf 39 = .ok (.lload 5, 2) := by decide +kernel
theorem dX8_valueOf_41 : decode cX8_valueOf 41 = .ok (.lmul, 1) := by decide +kernel
theorem dX8_valueOf_42 : decode cX8_valueOf 42 = .ok (.lload 5, 2) := by decide +kernel
theorem dX8_valueOf_44 : decode cX8_valueOf 44 = .ok (.lmul, 1) := by decide +kernel
theorem dX8_valueOf_45 : decode cX8_valueOf 45 = .ok (.ladd, 1) := by decide +kernel
theorem dX8_valueOf_46 : decode cX8_valueOf 46 = .ok (.lstore 7, 2) := by decide +kernel
theorem dX8_valueOf_48 : decode cX8_valueOf 48 = .ok (.lload 7, 2) := by decide +kernel
theorem dX8_valueOf_50 : decode cX8_valueOf 50 = .ok (.lload_n 2, 1) := by decide +kernel
theorem dX8_valueOf_51 : decode cX8_valueOf 51 = .ok (.lmul, 1) := by decide +kernel
theorem dX8_valueOf_52 : decode cX8_valueOf 52 = .ok (.aload_n 0, 1) := by decide +kernel
theorem dX8_valueOf_53 : decode cX8_valueOf 53 = .ok (.getfield 25, 3) := by decide +kernel
theorem dX8_valueOf_56 : decode cX8_valueOf 56 = .ok (.iload_n 1, 1) := by decide +kernel
theorem dX8_valueOf_57 : decode cX8_valueOf 57 = .ok (.iaload, 1) := by decide +kernel
theorem dX8_valueOf_58 : decode cX8_valueOf 58 = .ok (.i2l, 1) := by decide +kernel
theorem dX8_valueOf_59 : decode cX8_valueOf 59 = .ok (.lload 5, 2) := by decide +kernel
theorem dX8_valueOf_61 : decode cX8_valueOf 61 = .ok (.lmul, 1) := by decide +kernel
theorem dX8_valueOf_62 : decode cX8_valueOf 62 = .ok (.lload 5, 2) := by decide +kernel
theorem dX8_valueOf_64 : decode cX8_valueOf 64 = .ok (.lmul, 1) := by decide +kernel
theorem dX8_valueOf_65 : decode cX8_valueOf 65 = .ok (.lload 5, 2) := by decide +kernel
theorem dX8_valueOf_67 : decode cX8_valueOf 67 = .ok (.lmul, 1) := by decide +kernel
theorem dX8_valueOf_68 : decode cX8_valueOf 68 = .ok (.ladd, 1) := by decide +kernel
theorem dX8_valueOf_69 : decode cX8_valueOf 69 = .ok (.lreturn, 1) := by decide +kernel
set_option maxRecDepth 20000 in
theorem ggX8_seeks_X8_valueOf : GoodIn wsX8_seeks wsX8_valueOf := goodIn_r _ [8, 9, 10, 11, 12, 24, 25, 26, 27, 28, 29, 30, 31, 32, 33, 34, 35, 36, 37, 38, 39, 40, 41, 42, 43, 44, 45, 46, 47, 48, 49, 50, 51] (by decide +kernel) (by decide +kernel)
set_option maxRecDepth 20000 in
theorem gX8_seeks_X8_valueOf : GoodIn wsX8_seeks (wsV RX8 130 RX8 yX8_valueOf wsX8_valueOf) := goodIn_app (goodIn_of _ (by decide +kernel)) ggX8_seeks_X8_valueOf
set_option maxRecDepth 20000 in
theorem ggX8_seeks_X8_sign : GoodIn wsX8_seeks wsX8_sign := goodIn_r _ [15, 16] (by decide +kernel) (by decide +kernel)
set_option maxRecDepth 20000 in
theorem gX8_seeks_X8_sign : GoodIn wsX8_seeks (va_wsS RX8 134 yX8_sign wsX8_sign) := goodIn_app (goodIn_of _ (by decide +kernel)) ggX8_seeks_X8_sign
set_option maxRecDepth 20000 in
theorem ggX8_seeks_X8_sets : GoodIn wsX8_seeks wsX8_sets := goodIn_r _ [20, 21, 22, 23, 24, 25, 26, 27, 28, 29, 30, 31, 32, 33, 34, 35, 36, 37, 38, 39, 40, 41, 42, 43, 44, 45, 46, 47, 48, 49, 50, 51] (by decide +kernel) (by decide +kernel)
set_option maxRecDepth 20000 in
theorem gX8_seeks_X8_sets : GoodIn wsX8_seeks (wsV RX8 116 RX8 yX8_sets wsX8_sets) := goodIn_app (goodIn_of _ (by decide +kernel)) ggX8_seeks_X8_sets
theorem dX8_seeks_0 : decode cX8_seeks 0 = .ok (.iload_n 2, 1) := by decide +kernel
theorem dX8_seeks_1 : decode cX8_seeks 1 = .ok (.bipush 16, 2) := by decide +kernel
theorem dX8_seeks_3 : decode cX8_seeks 3 = .ok (.if_icmp .le 8, 3) := by decide +kernel
theorem dX8_seeks_6 : decode cX8_seeks 6 = .ok (.bipush 16, 2) := by decide +kernel
theorem dX8_seeks_8 : decode cX8_seeks 8 = .ok (.goto 4, 3) := by decide +kernel
theorem dX8_seeks_11 : decode cX8_seeks 11 = .ok (.iload_n 2, 1) := by decide +kernel
theorem dX8_seeks_12 : decode cX8_seeks 12 = .ok (.istore_n 3, 1) := by decide +kernel
theorem dX8_seeks_13 : decode cX8_seeks 13 = .ok (.aload_n 0, 1) := by decide +kernel
theorem dX8_seeks_14 : decode cX8_seeks 14 = .ok (.getfield 37, 3) := by decide +kernel
theorem dX8_seeks_17 : decode cX8_seeks 17 = .ok (.iload_n 1, 1) := by decide +kernel
theorem dX8_seeks_18 : decode cX8_seeks 18 = .ok (.iaload, 1) := by decide +kernel
theorem dX8_seeks_19 : decode cX8_seeks 19 = .ok (.i2l, 1) := by decide +kernel
theorem dX8_seeks_20 : decode cX8_seeks 20 = .ok (.iload_n 3, 1) := by decide +kernel
theorem dX8_seeks_21 : decode cX8_seeks 21 = .ok (.lshl, 1) := by decide +kernel
theorem dX8_seeks_22 : decode cX8_seeks 22 = .ok (.lstore 4, 2) := by decide +kernel
theorem dX8_seeks_24 : decode cX8_seeks 24 = .ok (.aload_n 0, 1) := by decide +kernel
theorem dX8_seeks_25 : decode cX8_seeks 25 = .ok (.getfield 40, 3) := by decide +kernel
theorem dX8_seeks_28 : decode cX8_seeks 28 = .ok (.iload_n 1, 1) := by decide +kernel
theorem dX8_seeks_29 : decode cX8_seeks 29 = .ok (.iaload, 1) := by decide +kernel
theorem dX8_seeks_30 : decode cX8_seeks 30 = .ok (.i2l, 1) := by decide +kernel
theorem dX8_seeks_31 : decode cX8_seeks 31 = .ok (.iload_n 3, 1) := by decide +kernel
theorem dX8_seeks_32 : decode cX8_seeks 32 = .ok (.lshl, 1) := by decide +kernel
theorem dX8_seeks_33 : decode cX8_seeks 33 = .ok (.lstore 6, 2) := by decide +kernel
theorem dX8_seeks_35 : decode cX8_seeks 35 = .ok (.aload_n 0, 1) := by decide +kernel
theorem dX8_seeks_36 : decode cX8_seeks 36 = .ok (.iload_n 1, 1) := by decide +kernel
theorem dX8_seeks_37 : decode cX8_seeks 37 = .ok (.lload 4, 2) := by decide +kernel
theorem dX8_seeks_39 : decode cX8_seeks 39 = .ok (.iload_n 3, 1) := by decide +kernel
theorem dX8_seeks_40 : decode cX8_seeks 40 = .ok (.invokevirtual 130, 3) := by decide +kernel
theorem dX8_seeks_43 : decode cX8_seeks 43 = .ok (.invokestatic 134, 3) := by decide +kernel
theorem dX8_seeks_46 : decode cX8_seeks 46 = .ok (.lstore 8, 2) := by decide +kernel
theorem dX8_seeks_48 : decode cX8_seeks 48 = .ok (.lload 6, 2) := by decide +kernel
theorem dX8_seeks_50 : decode cX8_seeks 50 = .ok (.lload 4, 2) := by decide +kernel
theorem dX8_seeks_52 : decode cX8_seeks 52 = .ok (.lsub, 1) := by decide +kernel
theorem dX8_seeks_53 : decode cX8_seeks 53 = .ok (.lconst 1, 1) := by decide +kernel
theorem dX8_seeks_54 : decode cX8_seeks 54 = .ok (.lcmp, 1) := by decide +kernel
theorem dX8_seeks_55 : decode cX8_seeks 55 = .ok (.ifCond .le 81, 3) := by decide +kernel
theorem dX8_seeks_58 : decode cX8_seeks 58 = .ok (.lload 4, 2) := by decide +kernel
theorem dX8_seeks_60 : decode cX8_seeks 60 = .ok (.lload 6, 2) := by decide +kernel
theorem dX8_seeks_62 : decode cX8_seeks 62 = .ok (.lload 4, 2) := by decide +kernel
theorem dX8_seeks_64 : decode cX8_seeks 64 = .ok (.lsub, 1) := by decide +kernel
theorem dX8_seeks_65 : decode cX8_seeks 65 = .ok (.ldc2_w 137, 3) := by decide +kernel
theorem dX8_seeks_68 : decode cX8_seeks 68 = .ok (.ldiv, 1) := by decide +kernel
theorem dX8_seeks_69 : decode cX8_seeks 69 = .ok (.ladd, 1) := by decide +kernel
theorem dX8_seeks_70 : decode cX8_seeks 70 = .ok (.lstore 10, 2) := by decide +kernel
theorem dX8_seeks_72 : decode cX8_seeks 72 = .ok (.aload_n 0, 1) := by decide +kernel
theorem dX8_seeks_73 : decode cX8_seeks 73 = .ok (.iload_n 1, 1) := by decide +kernel
theorem dX8_seeks_74 : decode cX8_seeks 74 = .ok (.lload 10, 2) := by decide +kernel
theorem dX8_seeks_76 : decode cX8_seeks 76 = .ok (.iload_n 3, 1) := by decide +kernel
theorem dX8_seeks_77 : decode cX8_seeks 77 = .ok (.invokevirtual 130, 3) := by decide +kernel
theorem dX8_seeks_80 : decode cX8_seeks 80 = .ok (.invokestatic 134, 3) := by decide +kernel
theorem dX8_seeks_83 : decode cX8_seeks 83 = .ok (.lstore 12, 2) := by decide +kernel
theorem dX8_seeks_85 : decode cX8_seeks 85 = .ok (.lload 12, 2) := by decide +kernel
theorem dX8_seeks_87 : decode cX8_seeks 87 = .ok (.lconst 0, 1) := by decide +kernel
theorem dX8_seeks_88 : decode cX8_seeks 88 = .ok (.lcmp, 1) := by decide +kernel
theorem dX8_seeks_89 : decode cX8_seeks 89 = .ok (.ifCond .eq 11, 3) := by decide +kernel
theorem dX8_seeks_92 : decode cX8_seeks 92 = .ok (.lload 12, 2) := by decide +kernel
theorem dX8_seeks_94 : decode cX8_seeks 94 = .ok (.lload 8, 2) := by decide +kernel
theorem dX8_seeks_96 : decode cX8_seeks 96 = .ok (.lcmp, 1) := by decide +kernel
theorem dX8_seeks_97 : decode cX8_seeks 97 = .ok (.ifCond .ne 8, 3) := by decide +kernel
theorem dX8_seeks_100 : decode cX8_seeks 100 = .ok (.lload 10, 2) := by decide +kernel
theorem dX8_seeks_102 : decode cX8_seeks 102 = .ok (.goto 5, 3) := by decide +kernel
theorem dX8_seeks_105 : decode cX8_seeks 105 = .ok (.lload 4, 2) := by decide +kernel
theorem dX8_seeks_107 : decode cX8_seeks 107 = .ok (.lstore 4, 2) := by decide +kernel
theorem dX8_seeks_109 : decode cX8_seeks 109 = .ok (.lload 12, 2) := by decide +kernel
theorem dX8_seeks_111 : decode cX8_seeks 111 = .ok (.lconst 0, 1) := by decide +kernel
theorem dX8_seeks_112 : decode cX8_seeks 112 = .ok (.lcmp, 1) := by decide +kernel
theorem dX8_seeks_113 : decode cX8_seeks 113 = .ok (.ifCond .eq 11, 3) := by decide +kernel
theorem dX8_seeks_116 : decode cX8_seeks 116 = .ok (.lload 12, 2) := by decide +kernel
theorem dX8_seeks_118 : decode cX8_seeks 118 = .ok (.lload 8, 2) := by decide +kernel
theorem dX8_seeks_120 : decode cX8_seeks 120 = .ok (.lcmp, 1) := by decide +kernel
theorem dX8_seeks_121 : decode cX8_seeks 121 = .ok (.ifCond .eq 8, 3) := by decide +kernel
theorem dX8_seeks_124 : decode cX8_seeks 124 = .ok (.lload 10, 2) := by decide +kernel
theorem dX8_seeks_126 : decode cX8_seeks 126 = .ok (.goto 5, 3) := by decide +kernel
theorem dX8_seeks_129 : decode cX8_seeks 129 = .ok (.lload 6, 2) := by decide +kernel
theorem dX8_seeks_131 : decode cX8_seeks 131 = .ok (.lstore 6, 2) := by decide +kernel
theorem dX8_seeks_133 : decode cX8_seeks 133 = .ok (.goto (-85), 3) := by decide +kernel
theorem dX8_seeks_136 : decode cX8_seeks 136 = .ok (.aload_n 0, 1) := by decide +kernel
theorem dX8_seeks_137 : decode cX8_seeks 137 = .ok (.lload 4, 2) := by decide +kernel
theorem dX8_seeks_139 : decode cX8_seeks 139 = .ok (.iload_n 2, 1) := by decide +kernel
theorem dX8_seeks_140 : decode cX8_seeks 140 = .ok (.iload_n 3, 1) := by decide +kernel
theorem dX8_seeks_141 : decode cX8_seeks 141 = .ok (.isub, 1) := by decide +kernel
theorem dX8_seeks_142 : decode cX8_seeks 142 = .ok (.lshl, 1) := by decide +kernel
theorem dX8_seeks_143 : decode cX8_seeks 143 = .ok (.lload 6, 2) := by decide +kernel
theorem dX8_seeks_145 : decode cX8_seeks 145 = .ok (.iload_n 2, 1) := by decide +kernel
theorem dX8_seeks_146 : decode cX8_seeks 146 = .ok (.iload_n 3, 1) := by decide +kernel
theorem dX8_seeks_147 : decode cX8_seeks 147 = .ok (.isub, 1) := by decide +kernel
theorem dX8_seeks_148 : decode cX8_seeks 148 = .ok (.lshl, 1) := by decide +kernel
theorem dX8_seeks_149 : decode cX8_seeks 149 = .ok (.invokevirtual 116, 3) := by decide +kernel
theorem dX8_seeks_152 : decode cX8_seeks 152 = .ok (.return_, 1) := by decide +kernel
set_option maxRecDepth 20000 in
theorem ggX8_makes_X8_cut : GoodIn wsX8_makes wsX8_cut := goodIn_r _ [11] (by decide +kernel) (by decide +kernel)
set_option maxRecDepth 20000 in
theorem gX8_makes_X8_cut : GoodIn wsX8_makes (va_wsS RX8 110 yX8_cut wsX8_cut) := goodIn_app (goodIn_of _ (by decide +kernel)) ggX8_makes_X8_cut
set_option maxRecDepth 20000 in
theorem ggX8_makes_X8_fill : GoodIn wsX8_makes wsX8_fill := goodIn_r _ [14] (by decide +kernel) (by decide +kernel)
set_option maxRecDepth 20000 in
theorem gX8_makes_X8_fill : GoodIn wsX8_makes (va_wsS RX8 113 yX8_fill wsX8_fill) := goodIn_app (goodIn_of _ (by decide +kernel)) ggX8_makes_X8_fill
set_option maxRecDepth 20000 in
theorem ggX8_makes_X8_sets : GoodIn wsX8_makes wsX8_sets := goodIn_r _ [18, 5, 6, 7, 63, 64, 65, 66, 67, 68, 69, 70, 71, 72, 73, 74, 75, 76, 77, 78, 79, 80, 81, 82, 83, 84, 85, 86, 87, 88, 89, 90] (by decide +kernel) (by decide +kernel)
set_option maxRecDepth 20000 in
theorem gX8_makes_X8_sets : GoodIn wsX8_makes (wsV RX8 116 RX8 yX8_sets wsX8_sets) := goodIn_app (goodIn_of _ (by decide +kernel)) ggX8_makes_X8_sets
set_option maxRecDepth 20000 in
theorem ggX8_makes_X8_multiplies : GoodIn wsX8_makes wsX8_multiplies := goodIn_r _ [22, 23, 24, 10, 25, 26, 27, 28, 8, 9, 11, 12, 13, 14, 15, 16, 17, 18, 5, 6, 7, 63, 64, 65, 66, 67, 68, 69, 70, 71, 72, 73, 74, 75, 76, 77, 78, 79, 80, 81, 82, 83, 84, 85, 86, 87, 88, 89, 90] (by decide +kernel) (by decide +kernel)
set_option maxRecDepth 20000 in
theorem gX8_makes_X8_multiplies : GoodIn wsX8_makes (wsV RX8 124 RX8 yX8_multiplies wsX8_multiplies) := goodIn_app (goodIn_of _ (by decide +kernel)) ggX8_makes_X8_multiplies
set_option maxRecDepth 20000 in
theorem ggX8_makes_X8_most : GoodIn wsX8_makes wsX8_most := goodIn_r _ [28] (by decide +kernel) (by decide +kernel)
set_option maxRecDepth 20000 in
theorem gX8_makes_X8_most : GoodIn wsX8_makes (va_wsS RX8 107 yX8_most wsX8_most) := goodIn_app (goodIn_of _ (by decide +kernel)) ggX8_makes_X8_most
set_option maxRecDepth 20000 in
theorem ggX8_makes_X8_inverts : GoodIn wsX8_makes wsX8_inverts := goodIn_r _ [32, 5, 8, 9, 10, 11, 12, 13, 14, 15, 16, 17, 18, 6, 7, 63, 64, 65, 66, 67, 68, 69, 70, 71, 72, 73, 74, 75, 76, 77, 78, 79, 80, 81, 82, 83, 84, 85, 86, 87, 88, 89, 90] (by decide +kernel) (by decide +kernel)
set_option maxRecDepth 20000 in
theorem gX8_makes_X8_inverts : GoodIn wsX8_makes (wsV RX8 139 RX8 yX8_inverts wsX8_inverts) := goodIn_app (goodIn_of _ (by decide +kernel)) ggX8_makes_X8_inverts
set_option maxRecDepth 20000 in
theorem ggX8_makes_X8_roots : GoodIn wsX8_makes wsX8_roots := goodIn_r _ [36, 26, 27, 10, 28, 37, 38, 39, 15, 16, 17, 18, 5, 6, 7, 63, 64, 65, 66, 67, 68, 69, 70, 71, 72, 73, 74, 75, 76, 77, 78, 79, 80, 81, 82, 83, 84, 85, 86, 87, 88, 89, 90] (by decide +kernel) (by decide +kernel)
set_option maxRecDepth 20000 in
theorem gX8_makes_X8_roots : GoodIn wsX8_makes (wsV RX8 143 RX8 yX8_roots wsX8_roots) := goodIn_app (goodIn_of _ (by decide +kernel)) ggX8_makes_X8_roots
set_option maxRecDepth 20000 in
theorem ggX8_makes_X8_raises : GoodIn wsX8_makes wsX8_raises := goodIn_r _ [43, 5, 6, 7, 15, 16, 17, 10, 18, 19, 20, 21, 22, 23, 24, 25, 26, 27, 28, 8, 9, 11, 12, 13, 14, 63, 64, 65, 66, 67, 68, 69, 70, 71, 72, 73, 74, 75, 76, 77, 78, 79, 80, 81, 82, 83, 84, 85, 86, 87, 88, 89, 90] (by decide +kernel) (by decide +kernel)
set_option maxRecDepth 20000 in
theorem gX8_makes_X8_raises : GoodIn wsX8_makes (wsV RX8 146 RX8 yX8_raises wsX8_raises) := goodIn_app (goodIn_of _ (by decide +kernel)) ggX8_makes_X8_raises
set_option maxRecDepth 20000 in
theorem ggX8_makes_X8_seeks : GoodIn wsX8_makes wsX8_seeks := goodIn_r _ [47, 48, 49, 50, 51, 52, 53, 10, 54, 55, 56, 57, 58, 59, 60, 61, 62, 15, 16, 17, 18, 5, 6, 7, 63, 64, 65, 66, 67, 68, 69, 70, 71, 72, 73, 74, 75, 76, 77, 78, 79, 80, 81, 82, 83, 84, 85, 86, 87, 88, 89, 90] (by decide +kernel) (by decide +kernel)
set_option maxRecDepth 20000 in
theorem gX8_makes_X8_seeks : GoodIn wsX8_makes (wsV RX8 149 RX8 yX8_seeks wsX8_seeks) := goodIn_app (goodIn_of _ (by decide +kernel)) ggX8_makes_X8_seeks
theorem dX8_makes_0 : decode cX8_makes 0 = .ok (.aload_n 0, 1) := by decide +kernel
theorem dX8_makes_1 : decode cX8_makes 1 = .ok (.getfield 7, 3) := by decide +kernel
theorem dX8_makes_4 : decode cX8_makes 4 = .ok (.iload_n 1, 1) := by decide +kernel
theorem dX8_makes_5 : decode cX8_makes 5 = .ok (.iaload, 1) := by decide +kernel
theorem dX8_makes_6 : decode cX8_makes 6 = .ok (.tableswitch 191 0 7 #[46, 91, 107, 123, 138, 158, 169, 180], 46) := by decide +kernel
theorem dX8_makes_52 : decode cX8_makes 52 = .ok (.aload_n 0, 1) := by decide +kernel
theorem dX8_makes_53 : decode cX8_makes 53 = .ok (.aload_n 0, 1) := by decide +kernel
theorem dX8_makes_54 : decode cX8_makes 54 = .ok (.getfield 19, 3) := by decide +kernel
theorem dX8_makes_57 : decode cX8_makes 57 = .ok (.iload_n 1, 1) := by decide +kernel
theorem dX8_makes_58 : decode cX8_makes 58 = .ok (.iaload, 1) := by decide +kernel
theorem dX8_makes_59 : decode cX8_makes 59 = .ok (.i2l, 1) := by decide +kernel
theorem dX8_makes_60 : decode cX8_makes 60 = .ok (.iload_n 2, 1) := by decide +kernel
theorem dX8_makes_61 : decode cX8_makes 61 = .ok (.lshl, 1) := by decide +kernel
theorem dX8_makes_62 : decode cX8_makes 62 = .ok (.aload_n 0, 1) := by decide +kernel
theorem dX8_makes_63 : decode cX8_makes 63 = .ok (.getfield 22, 3) := by decide +kernel
theorem dX8_makes_66 : decode cX8_makes 66 = .ok (.iload_n 1, 1) := by decide +kernel
theorem dX8_makes_67 : decode cX8_makes 67 = .ok (.iaload, 1) := by decide +kernel
theorem dX8_makes_68 : decode cX8_makes 68 = .ok (.i2l, 1) := by decide +kernel
theorem dX8_makes_69 : decode cX8_makes 69 = .ok (.invokestatic 110, 3) := by decide +kernel
theorem dX8_makes_72 : decode cX8_makes 72 = .ok (.aload_n 0, 1) := by decide +kernel
theorem dX8_makes_73 : decode cX8_makes 73 = .ok (.getfield 19, 3) := by decide +kernel
theorem dX8_makes_76 : decode cX8_makes 76 = .ok (.iload_n 1, 1) := by decide +kernel
theorem dX8_makes_77 : decode cX8_makes 77 = .ok (.iaload, 1) := by decide +kernel
theorem dX8_makes_78 : decode cX8_makes 78 = .ok (.i2l, 1) := by decide +kernel
theorem dX8_makes_79 : decode cX8_makes 79 = .ok (.iload_n 2, 1) := by decide +kernel
theorem dX8_makes_80 : decode cX8_makes 80 = .ok (.lshl, 1) := by decide +kernel
theorem dX8_makes_81 : decode cX8_makes 81 = .ok (.aload_n 0, 1) := by decide +kernel
theorem dX8_makes_82 : decode cX8_makes 82 = .ok (.getfield 22, 3) := by decide +kernel
theorem dX8_makes_85 : decode cX8_makes 85 = .ok (.iload_n 1, 1) := by decide +kernel
theorem dX8_makes_86 : decode cX8_makes 86 = .ok (.iaload, 1) := by decide +kernel
theorem dX8_makes_87 : decode cX8_makes 87 = .ok (.i2l, 1) := by decide +kernel
theorem dX8_makes_88 : decode cX8_makes 88 = .ok (.invokestatic 113, 3) := by decide +kernel
theorem dX8_makes_91 : decode cX8_makes 91 = .ok (.invokevirtual 116, 3) := by decide +kernel
theorem dX8_makes_94 : decode cX8_makes 94 = .ok (.goto 109, 3) := by decide +kernel
theorem dX8_makes_97 : decode cX8_makes 97 = .ok (.aload_n 0, 1) := by decide +kernel
theorem dX8_makes_98 : decode cX8_makes 98 = .ok (.lload_n 3, 1) := by decide +kernel
theorem dX8_makes_99 : decode cX8_makes 99 = .ok (.lload 7, 2) := by decide +kernel
theorem dX8_makes_101 : decode cX8_makes 101 = .ok (.ladd, 1) := by decide +kernel
theorem dX8_makes_102 : decode cX8_makes 102 = .ok (.lload 5, 2) := by decide +kernel
theorem dX8_makes_104 : decode cX8_makes 104 = .ok (.lload 9, 2) := by decide +kernel
theorem dX8_makes_106 : decode cX8_makes 106 = .ok (.ladd, 1) := by decide +kernel
theorem dX8_makes_107 : decode cX8_makes 107 = .ok (.invokevirtual 116, 3) := by decide +kernel
theorem dX8_makes_110 : decode cX8_makes 110 = .ok (.goto 93, 3) := by decide +kernel
theorem dX8_makes_113 : decode cX8_makes 113 = .ok (.aload_n 0, 1) := by decide +kernel
theorem dX8_makes_114 : decode cX8_makes 114 = .ok (.lload_n 3, 1) := by decide +kernel
theorem dX8_makes_115 : decode cX8_makes 115 = .ok (.lload 9, 2) := by decide +kernel
theorem dX8_makes_117 : decode cX8_makes 117 = .ok (.lsub, 1) := by decide +kernel
theorem dX8_makes_118 : decode cX8_makes 118 = .ok (.lload 5, 2) := by decide +kernel
theorem dX8_makes_120 : decode cX8_makes 120 = .ok (.lload 7, 2) := by decide +kernel
theorem dX8_makes_122 : decode cX8_makes 122 = .ok (.lsub, 1) := by decide +kernel
theorem dX8_makes_123 : decode cX8_makes 123 = .ok (.invokevirtual 116, 3) := by decide +kernel
theorem dX8_makes_126 : decode cX8_makes 126 = .ok (.goto 77, 3) := by decide +kernel
theorem dX8_makes_129 : decode cX8_makes 129 = .ok (.aload_n 0, 1) := by decide +kernel
theorem dX8_makes_130 : decode cX8_makes 130 = .ok (.lload_n 3, 1) := by decide +kernel
theorem dX8_makes_131 : decode cX8_makes 131 = .ok (.lload 5, 2) := by decide +kernel
theorem dX8_makes_133 : decode cX8_makes 133 = .ok (.lload 7, 2) := by decide +kernel
theorem dX8_makes_135 : decode cX8_makes 135 = .ok (.lload 9, 2) := by decide +kernel
theorem dX8_makes_137 : decode cX8_makes 137 = .ok (.iload_n 2, 1) := by decide +kernel
theorem dX8_makes_138 : decode cX8_makes 138 = .ok (.invokevirtual 124, 3) := by decide +kernel
theorem dX8_makes_141 : decode cX8_makes 141 = .ok (.goto 62, 3) := by decide +kernel
theorem dX8_makes_144 : decode cX8_makes 144 = .ok (.aload_n 0, 1) := by decide +kernel
theorem dX8_makes_145 : decode cX8_makes 145 = .ok (.lload_n 3, 1) := by decide +kernel
theorem dX8_makes_146 : decode cX8_makes 146 = .ok (.lload 7, 2) := by decide +kernel
theorem dX8_makes_148 : decode cX8_makes 148 = .ok (.invokestatic 107, 3) := by decide +kernel
theorem dX8_makes_151 : decode cX8_makes 151 = .ok (.lload 5, 2) := by decide +kernel
theorem dX8_makes_153 : decode cX8_makes 153 = .ok (.lload 9, 2) := by decide +kernel
theorem dX8_makes_155 : decode cX8_makes 155 = .ok (.invokestatic 107, 3) := by decide +kernel
theorem dX8_makes_158 : decode cX8_makes 158 = .ok (.invokevirtual 116, 3) := by decide +kernel
theorem dX8_makes_161 : decode cX8_makes 161 = .ok (.goto 42, 3) := by decide +kernel
theorem dX8_makes_164 : decode cX8_makes 164 = .ok (.aload_n 0, 1) := by decide +kernel
theorem dX8_makes_165 : decode cX8_makes 165 = .ok (.lload_n 3, 1) := by decide +kernel
theorem dX8_makes_166 : decode cX8_makes 166 = .ok (.lload 5, 2) := by decide +kernel
theorem dX8_makes_168 : decode cX8_makes 168 = .ok (.iload_n 2, 1) := by decide +kernel
theorem dX8_makes_169 : decode cX8_makes 169 = .ok (.invokevirtual 139, 3) := by decide +kernel
theorem dX8_makes_172 : decode cX8_makes 172 = .ok (.goto 31, 3) := by decide +kernel
theorem dX8_makes_175 : decode cX8_makes 175 = .ok (.aload_n 0, 1) := by decide +kernel
theorem dX8_makes_176 : decode cX8_makes 176 = .ok (.lload_n 3, 1) := by decide +kernel
theorem dX8_makes_177 : decode cX8_makes 177 = .ok (.lload 5, 2) := by decide +kernel
theorem dX8_makes_179 : decode cX8_makes 179 = .ok (.iload_n 2, 1) := by decide +kernel
theorem dX8_makes_180 : decode cX8_makes 180 = .ok (.invokevirtual 143, 3) := by decide +kernel
theorem dX8_makes_183 : decode cX8_makes 183 = .ok (.goto 20, 3) := by decide +kernel
theorem dX8_makes_186 : decode cX8_makes 186 = .ok (.aload_n 0, 1) := by decide +kernel
theorem dX8_makes_187 : decode cX8_makes 187 = .ok (.lload_n 3, 1) := by decide +kernel
theorem dX8_makes_188 : decode cX8_makes 188 = .ok (.lload 5, 2) := by decide +kernel
theorem dX8_makes_190 : decode cX8_makes 190 = .ok (.iload_n 2, 1) := by decide +kernel
theorem dX8_makes_191 : decode cX8_makes 191 = .ok (.invokevirtual 146, 3) := by decide +kernel
theorem dX8_makes_194 : decode cX8_makes 194 = .ok (.goto 9, 3) := by decide +kernel
theorem dX8_makes_197 : decode cX8_makes 197 = .ok (.aload_n 0, 1) := by decide +kernel
theorem dX8_makes_198 : decode cX8_makes 198 = .ok (.iload_n 1, 1) := by decide +kernel
theorem dX8_makes_199 : decode cX8_makes 199 = .ok (.iload_n 2, 1) := by decide +kernel
theorem dX8_makes_200 : decode cX8_makes 200 = .ok (.invokevirtual 149, 3) := by decide +kernel
theorem dX8_makes_203 : decode cX8_makes 203 = .ok (.ldc2_w 153, 3) := by decide +kernel
theorem dX8_makes_206 : decode cX8_makes 206 = .ok (.iload_n 2, 1) := by decide +kernel
theorem dX8_makes_207 : decode cX8_makes 207 = .ok (.lshl, 1) := by decide +kernel
theorem dX8_makes_208 : decode cX8_makes 208 = .ok (.lstore 11, 2) := by decide +kernel
theorem dX8_makes_210 : decode cX8_makes 210 = .ok (.aload_n 0, 1) := by decide +kernel
theorem dX8_makes_211 : decode cX8_makes 211 = .ok (.aload_n 0, 1) := by decide +kernel
theorem dX8_makes_212 : decode cX8_makes 212 = .ok (.getfield 92, 3) := by decide +kernel
theorem dX8_makes_215 : decode cX8_makes 215 = .ok (.ifCond .eq 49, 3) := by decide +kernel
theorem dX8_makes_218 : decode cX8_makes 218 = .ok (.aload_n 0, 1) := by decide +kernel
theorem dX8_makes_219 : decode cX8_makes 219 = .ok (.getfield 96, 3) := by decide +kernel
theorem dX8_makes_222 : decode cX8_makes 222 = .ok (.lload 11, 2) := by decide +kernel
theorem dX8_makes_224 : decode cX8_makes 224 = .ok (.lneg, 1) := by decide +kernel
theorem dX8_makes_225 : decode cX8_makes 225 = .ok (.lcmp, 1) := by decide +kernel
theorem dX8_makes_226 : decode cX8_makes 226 = .ok (.ifCond .lt 38, 3) := by decide +kernel
theorem dX8_makes_229 : decode cX8_makes 229 = .ok (.aload_n 0, 1) := by decide +kernel
theorem dX8_makes_230 : decode cX8_makes 230 = .ok (.getfield 100, 3) := by decide +kernel
theorem dX8_makes_233 : decode cX8_makes 233 = .ok (.lload 11, 2) := by decide +kernel
theorem dX8_makes_235 : decode cX8_makes 235 = .ok (.lcmp, 1) := by decide +kernel
theorem dX8_makes_236 : decode cX8_makes 236 = .ok (.ifCond .gt 28, 3) := by decide +kernel
theorem dX8_makes_239 : decode cX8_makes 239 = .ok (.aload_n 0, 1) := by decide +kernel
theorem dX8_makes_240 : decode cX8_makes 240 = .ok (.getfield 96, 3) := by decide +kernel
theorem dX8_makes_243 : decode cX8_makes 243 = .ok (.lload 11, 2) := by decide +kernel
theorem dX8_makes_245 : decode cX8_makes 245 = .ok (.lcmp, 1) := by decide +kernel
theorem dX8_makes_246 : decode cX8_makes 246 = .ok (.ifCond .gt 18, 3) := by decide +kernel
theorem dX8_makes_249 : decode cX8_makes 249 = .ok (.aload_n 0, 1) := by decide +kernel
theorem dX8_makes_250 : decode cX8_makes 250 = .ok (.getfield 100, 3) := by decide +kernel
theorem dX8_makes_253 : decode cX8_makes 253 = .ok (.lload 11, 2) := by decide +kernel
theorem dX8_makes_255 : decode cX8_makes 255 = .ok (.lneg, 1) := by decide +kernel
theorem dX8_makes_256 : decode cX8_makes 256 = .ok (.lcmp, 1) := by decide +kernel
theorem dX8_makes_257 : decode cX8_makes 257 = .ok (.ifCond .lt 7, 3) := by decide +kernel
theorem dX8_makes_260 : decode cX8_makes 260 = .ok (.iconst 1, 1) := by decide +kernel
theorem dX8_makes_261 : decode cX8_makes 261 = .ok (.goto 4, 3) := by decide +kernel
theorem dX8_makes_264 : decode cX8_makes 264 = .ok (.iconst 0, 1) := by decide +kernel
theorem dX8_makes_265 : decode cX8_makes 265 = .ok (.putfield 92, 3) := by decide +kernel
theorem dX8_makes_268 : decode cX8_makes 268 = .ok (.return_, 1) := by decide +kernel
set_option maxRecDepth 20000 in
theorem ggX8_keepsAt_X8_makes : GoodIn wsX8_keepsAt wsX8_makes := goodIn_r _ [17, 18, 19, 20, 21, 4, 7, 8, 22, 23, 16, 24, 25, 26, 27, 28, 29, 30, 31, 32, 33, 34, 35, 36, 37, 38, 39, 40, 41, 42, 43, 44, 45, 46, 47, 48, 49, 50, 51, 52, 53, 54, 55, 56, 57, 58, 59, 60, 61, 62, 11, 63, 64, 65, 66, 67, 68, 69, 70, 71, 72, 73, 74, 75, 76, 77, 78, 79, 80, 81, 82, 83, 84, 85, 86, 87, 88, 89, 90, 91, 92, 93, 94, 95, 96, 97, 98, 99, 100, 101, 102] (by decide +kernel) (by decide +kernel)
set_option maxRecDepth 20000 in
theorem gX8_keepsAt_X8_makes : GoodIn wsX8_keepsAt (wsV RX8 155 RX8 yX8_makes wsX8_makes) := goodIn_app (goodIn_of _ (by decide +kernel)) ggX8_keepsAt_X8_makes
set_option maxRecDepth 20000 in
theorem ggX8_keepsAt_X8_most : GoodIn wsX8_keepsAt wsX8_most := goodIn_r _ [41] (by decide +kernel) (by decide +kernel)
set_option maxRecDepth 20000 in
theorem gX8_keepsAt_X8_most : GoodIn wsX8_keepsAt (va_wsS RX8 107 yX8_most wsX8_most) := goodIn_app (goodIn_of _ (by decide +kernel)) ggX8_keepsAt_X8_most
set_option maxRecDepth 20000 in
theorem ggX8_keepsAt_X8_least : GoodIn wsX8_keepsAt wsX8_least := goodIn_r _ [38] (by decide +kernel) (by decide +kernel)
set_option maxRecDepth 20000 in
theorem gX8_keepsAt_X8_least : GoodIn wsX8_keepsAt (va_wsS RX8 103 yX8_least wsX8_least) := goodIn_app (goodIn_of _ (by decide +kernel)) ggX8_keepsAt_X8_least
theorem dX8_keepsAt_0 : decode cX8_keepsAt 0 = .ok (.bipush 25, 2) := by decide +kernel
theorem dX8_keepsAt_2 : decode cX8_keepsAt 2 = .ok (.iload_n 1, 1) := by decide +kernel
theorem dX8_keepsAt_3 : decode cX8_keepsAt 3 = .ok (.imul, 1) := by decide +kernel
theorem dX8_keepsAt_4 : decode cX8_keepsAt 4 = .ok (.iload_n 2, 1) := by decide +kernel
theorem dX8_keepsAt_5 : decode cX8_keepsAt 5 = .ok (.iadd, 1) := by decide +kernel
theorem dX8_keepsAt_6 : decode cX8_keepsAt 6 = .ok (.istore_n 3, 1) := by decide +kernel
theorem dX8_keepsAt_7 : decode cX8_keepsAt 7 = .ok (.bipush 25, 2) := by decide +kernel
theorem dX8_keepsAt_9 : decode cX8_keepsAt 9 = .ok (.aload_n 0, 1) := by decide +kernel
theorem dX8_keepsAt_10 : decode cX8_keepsAt 10 = .ok (.getfield 13, 3) := by decide +kernel
theorem dX8_keepsAt_13 : decode cX8_keepsAt 13 = .ok (.iload_n 1, 1) := by decide +kernel
theorem dX8_keepsAt_14 : decode cX8_keepsAt 14 = .ok (.iaload, 1) := by decide +kernel
theorem dX8_keepsAt_15 : decode cX8_keepsAt 15 = .ok (.iconst (-1), 1) := by decide +kernel
theorem dX8_keepsAt_16 : decode cX8_keepsAt 16 = .ok (.if_icmp .ne 7, 3) := by decide +kernel
theorem dX8_keepsAt_19 : decode cX8_keepsAt 19 = .ok (.iload_n 1, 1) := by decide +kernel
theorem dX8_keepsAt_20 : decode cX8_keepsAt 20 = .ok (.goto 9, 3) := by decide +kernel
theorem dX8_keepsAt_23 : decode cX8_keepsAt 23 = .ok (.aload_n 0, 1) := by decide +kernel
theorem dX8_keepsAt_24 : decode cX8_keepsAt 24 = .ok (.getfield 13, 3) := by decide +kernel
theorem dX8_keepsAt_27 : decode cX8_keepsAt 27 = .ok (.iload_n 1, 1) := by decide +kernel
theorem dX8_keepsAt_28 : decode cX8_keepsAt 28 = .ok (.iaload, 1) := by decide +kernel
theorem dX8_keepsAt_29 : decode cX8_keepsAt 29 = .ok (.imul, 1) := by decide +kernel
theorem dX8_keepsAt_30 : decode cX8_keepsAt 30 = .ok (.iload_n 2, 1) := by decide +kernel
theorem dX8_keepsAt_31 : decode cX8_keepsAt 31 = .ok (.iadd, 1) := by decide +kernel
theorem dX8_keepsAt_32 : decode cX8_keepsAt 32 = .ok (.istore 4, 2) := by decide +kernel
theorem dX8_keepsAt_34 : decode cX8_keepsAt 34 = .ok (.bipush 25, 2) := by decide +kernel
theorem dX8_keepsAt_36 : decode cX8_keepsAt 36 = .ok (.aload_n 0, 1) := by decide +kernel
theorem dX8_keepsAt_37 : decode cX8_keepsAt 37 = .ok (.getfield 16, 3) := by decide +kernel
theorem dX8_keepsAt_40 : decode cX8_keepsAt 40 = .ok (.iload_n 1, 1) := by decide +kernel
theorem dX8_keepsAt_41 : decode cX8_keepsAt 41 = .ok (.iaload, 1) := by decide +kernel
theorem dX8_keepsAt_42 : decode cX8_keepsAt 42 = .ok (.iconst (-1), 1) := by decide +kernel
theorem dX8_keepsAt_43 : decode cX8_keepsAt 43 = .ok (.if_icmp .ne 7, 3) := by decide +kernel
theorem dX8_keepsAt_46 : decode cX8_keepsAt 46 = .ok (.iload_n 1, 1) := by decide +kernel
theorem dX8_keepsAt_47 : decode cX8_keepsAt 47 = .ok (.goto 9, 3) := by decide +kernel
theorem dX8_keepsAt_50 : decode cX8_keepsAt 50 = .ok (.aload_n 0, 1) := by decide +kernel
theorem dX8_keepsAt_51 : decode cX8_keepsAt 51 = .ok (.getfield 16, 3) := by decide +kernel
theorem dX8_keepsAt_54 : decode cX8_keepsAt 54 = .ok (.iload_n 1, 1) := by decide +kernel
theorem dX8_keepsAt_55 : decode cX8_keepsAt 55 = .ok (.iaload, 1) := by decide +kernel
theorem dX8_keepsAt_56 : decode cX8_keepsAt 56 = .ok (.imul, 1) := by decide +kernel
theorem dX8_keepsAt_57 : decode cX8_keepsAt 57 = .ok (.iload_n 2, 1) := by decide +kernel
theorem dX8_keepsAt_58 : decode cX8_keepsAt 58 = .ok (.iadd, 1) := by decide +kernel
theorem dX8_keepsAt_59 : decode cX8_keepsAt 59 = .ok (.istore 5, 2) := by decide +kernel
theorem dX8_keepsAt_61 : decode cX8_keepsAt 61 = .ok (.aload_n 0, 1) := by decide +kernel
theorem dX8_keepsAt_62 : decode cX8_keepsAt 62 = .ok (.aload_n 0, 1) := by decide +kernel
theorem dX8_keepsAt_63 : decode cX8_keepsAt 63 = .ok (.getfield 13, 3) := by decide +kernel
theorem dX8_keepsAt_66 : decode cX8_keepsAt 66 = .ok (.iload_n 1, 1) := by decide +kernel
theorem dX8_keepsAt_67 : decode cX8_keepsAt 67 = .ok (.iaload, 1) := by decide +kernel
theorem dX8_keepsAt_68 : decode cX8_keepsAt 68 = .ok (.iconst (-1), 1) := by decide +kernel
theorem dX8_keepsAt_69 : decode cX8_keepsAt 69 = .ok (.if_icmp .eq 13, 3) := by decide +kernel
theorem dX8_keepsAt_72 : decode cX8_keepsAt 72 = .ok (.aload_n 0, 1) := by decide +kernel
theorem dX8_keepsAt_73 : decode cX8_keepsAt 73 = .ok (.getfield 43, 3) := by decide +kernel
theorem dX8_keepsAt_76 : decode cX8_keepsAt 76 = .ok (.iload 4, 2) := by decide +kernel
theorem dX8_keepsAt_78 : decode cX8_keepsAt 78 = .ok (.baload, 1) := by decide +kernel
theorem dX8_keepsAt_79 : decode cX8_keepsAt 79 = .ok (.ifCond .eq 27, 3) := by decide +kernel
theorem dX8_keepsAt_82 : decode cX8_keepsAt 82 = .ok (.aload_n 0, 1) := by decide +kernel
theorem dX8_keepsAt_83 : decode cX8_keepsAt 83 = .ok (.getfield 16, 3) := by decide +kernel
theorem dX8_keepsAt_86 : decode cX8_keepsAt 86 = .ok (.iload_n 1, 1) := by decide +kernel
theorem dX8_keepsAt_87 : decode cX8_keepsAt 87 = .ok (.iaload, 1) := by decide +kernel
theorem dX8_keepsAt_88 : decode cX8_keepsAt 88 = .ok (.iconst (-1), 1) := by decide +kernel
theorem dX8_keepsAt_89 : decode cX8_keepsAt 89 = .ok (.if_icmp .eq 13, 3) := by decide +kernel
theorem dX8_keepsAt_92 : decode cX8_keepsAt 92 = .ok (.aload_n 0, 1) := by decide +kernel
theorem dX8_keepsAt_93 : decode cX8_keepsAt 93 = .ok (.getfield 43, 3) := by decide +kernel
theorem dX8_keepsAt_96 : decode cX8_keepsAt 96 = .ok (.iload 5, 2) := by decide +kernel
theorem dX8_keepsAt_98 : decode cX8_keepsAt 98 = .ok (.baload, 1) := by decide +kernel
theorem dX8_keepsAt_99 : decode cX8_keepsAt 99 = .ok (.ifCond .eq 7, 3) := by decide +kernel
theorem dX8_keepsAt_102 : decode cX8_keepsAt 102 = .ok (.iconst 1, 1) := by decide +kernel
theorem dX8_keepsAt_103 : decode cX8_keepsAt 103 = .ok (.goto 4, 3) := by decide +kernel
theorem dX8_keepsAt_106 : decode cX8_keepsAt 106 = .ok (.iconst 0, 1) := by decide +kernel
theorem dX8_keepsAt_107 : decode cX8_keepsAt 107 = .ok (.putfield 92, 3) := by decide +kernel
theorem dX8_keepsAt_110 : decode cX8_keepsAt 110 = .ok (.aload_n 0, 1) := by decide +kernel
theorem dX8_keepsAt_111 : decode cX8_keepsAt 111 = .ok (.getfield 92, 3) := by decide +kernel
theorem dX8_keepsAt_114 : decode cX8_keepsAt 114 = .ok (.ifCond .eq 37, 3) := by decide +kernel
theorem dX8_keepsAt_117 : decode cX8_keepsAt 117 = .ok (.aload_n 0, 1) := by decide +kernel
theorem dX8_keepsAt_118 : decode cX8_keepsAt 118 = .ok (.iload_n 1, 1) := by decide +kernel
theorem dX8_keepsAt_119 : decode cX8_keepsAt 119 = .ok (.iload_n 2, 1) := by decide +kernel
theorem dX8_keepsAt_120 : decode cX8_keepsAt 120 = .ok (.aload_n 0, 1) := by decide +kernel
theorem dX8_keepsAt_121 : decode cX8_keepsAt 121 = .ok (.getfield 47, 3) := by decide +kernel
theorem dX8_keepsAt_124 : decode cX8_keepsAt 124 = .ok (.iload 4, 2) := by decide +kernel
theorem dX8_keepsAt_126 : decode cX8_keepsAt 126 = .ok (.laload, 1) := by decide +kernel
theorem dX8_keepsAt_127 : decode cX8_keepsAt 127 = .ok (.aload_n 0, 1) := by decide +kernel
theorem dX8_keepsAt_128 : decode cX8_keepsAt 128 = .ok (.getfield 51, 3) := by decide +kernel
theorem dX8_keepsAt_131 : decode cX8_keepsAt 131 = .ok (.iload 4, 2) := by decide +kernel
theorem dX8_keepsAt_133 : decode cX8_keepsAt 133 = .ok (.laload, 1) := by decide +kernel
theorem dX8_keepsAt_134 : decode cX8_keepsAt 134 = .ok (.aload_n 0, 1) := by decide +kernel
theorem dX8_keepsAt_135 : decode cX8_keepsAt 135 = .ok (.getfield 47, 3) := by decide +kernel
theorem dX8_keepsAt_138 : decode cX8_keepsAt 138 = .ok (.iload 5, 2) := by decide +kernel
theorem dX8_keepsAt_140 : decode cX8_keepsAt 140 = .ok (.laload, 1) := by decide +kernel
theorem dX8_keepsAt_141 : decode cX8_keepsAt 141 = .ok (.aload_n 0, 1) := by decide +kernel
theorem dX8_keepsAt_142 : decode cX8_keepsAt 142 = .ok (.getfield 51, 3) := by decide +kernel
theorem dX8_keepsAt_145 : decode cX8_keepsAt 145 = .ok (.iload 5, 2) := by decide +kernel
theorem dX8_keepsAt_147 : decode cX8_keepsAt 147 = .ok (.laload, 1) := by decide +kernel
theorem dX8_keepsAt_148 : decode cX8_keepsAt 148 = .ok (.invokevirtual 155, 3) := by decide +kernel
theorem dX8_keepsAt_151 : decode cX8_keepsAt 151 = .ok (.aload_n 0, 1) := by decide +kernel
theorem dX8_keepsAt_152 : decode cX8_keepsAt 152 = .ok (.getfield 43, 3) := by decide +kernel
theorem dX8_keepsAt_155 : decode cX8_keepsAt 155 = .ok (.iload_n 3, 1) := by decide +kernel
theorem dX8_keepsAt_156 : decode cX8_keepsAt 156 = .ok (.aload_n 0, 1) := by decide +kernel
theorem dX8_keepsAt_157 : decode cX8_keepsAt 157 = .ok (.getfield 92, 3) := by decide +kernel
theorem dX8_keepsAt_160 : decode cX8_keepsAt 160 = .ok (.bastore, 1) := by decide +kernel
theorem dX8_keepsAt_161 : decode cX8_keepsAt 161 = .ok (.aload_n 0, 1) := by decide +kernel
theorem dX8_keepsAt_162 : decode cX8_keepsAt 162 = .ok (.getfield 47, 3) := by decide +kernel
theorem dX8_keepsAt_165 : decode cX8_keepsAt 165 = .ok (.iload_n 3, 1) := by decide +kernel
theorem dX8_keepsAt_166 : decode cX8_keepsAt 166 = .ok (.aload_n 0, 1) := by decide +kernel
theorem dX8_keepsAt_167 : decode cX8_keepsAt 167 = .ok (.getfield 96, 3) := by decide +kernel
theorem dX8_keepsAt_170 : decode cX8_keepsAt 170 = .ok (.lastore, 1) := by decide +kernel
theorem dX8_keepsAt_171 : decode cX8_keepsAt 171 = .ok (.aload_n 0, 1) := by decide +kernel
theorem dX8_keepsAt_172 : decode cX8_keepsAt 172 = .ok (.getfield 51, 3) := by decide +kernel
theorem dX8_keepsAt_175 : decode cX8_keepsAt 175 = .ok (.iload_n 3, 1) := by decide +kernel
theorem dX8_keepsAt_176 : decode cX8_keepsAt 176 = .ok (.aload_n 0, 1) := by decide +kernel
theorem dX8_keepsAt_177 : decode cX8_keepsAt 177 = .ok (.getfield 100, 3) := by decide +kernel
theorem dX8_keepsAt_180 : decode cX8_keepsAt 180 = .ok (.lastore, 1) := by decide +kernel
theorem dX8_keepsAt_181 : decode cX8_keepsAt 181 = .ok (.iload_n 2, 1) := by decide +kernel
theorem dX8_keepsAt_182 : decode cX8_keepsAt 182 = .ok (.ifCond .le 18, 3) := by decide +kernel
theorem dX8_keepsAt_185 : decode cX8_keepsAt 185 = .ok (.aload_n 0, 1) := by decide +kernel
theorem dX8_keepsAt_186 : decode cX8_keepsAt 186 = .ok (.getfield 54, 3) := by decide +kernel
theorem dX8_keepsAt_189 : decode cX8_keepsAt 189 = .ok (.iload_n 3, 1) := by decide +kernel
theorem dX8_keepsAt_190 : decode cX8_keepsAt 190 = .ok (.iconst 1, 1) := by decide +kernel
theorem dX8_keepsAt_191 : decode cX8_keepsAt 191 = .ok (.isub, 1) := by decide +kernel
theorem dX8_keepsAt_192 : decode cX8_keepsAt 192 = .ok (.baload, 1) := by decide +kernel
theorem dX8_keepsAt_193 : decode cX8_keepsAt 193 = .ok (.ifCond .eq 7, 3) := by decide +kernel
theorem dX8_keepsAt_196 : decode cX8_keepsAt 196 = .ok (.iconst 1, 1) := by decide +kernel
theorem dX8_keepsAt_197 : decode cX8_keepsAt 197 = .ok (.goto 4, 3) := by decide +kernel
theorem dX8_keepsAt_200 : decode cX8_keepsAt 200 = .ok (.iconst 0, 1) := by decide +kernel
theorem dX8_keepsAt_201 : decode cX8_keepsAt 201 = .ok (.istore 6, 2) := by decide +kernel
theorem dX8_keepsAt_203 : decode cX8_keepsAt 203 = .ok (.aload_n 0, 1) := by decide +kernel
theorem dX8_keepsAt_204 : decode cX8_keepsAt 204 = .ok (.getfield 54, 3) := by decide +kernel
theorem dX8_keepsAt_207 : decode cX8_keepsAt 207 = .ok (.iload_n 3, 1) := by decide +kernel
theorem dX8_keepsAt_208 : decode cX8_keepsAt 208 = .ok (.iload 6, 2) := by decide +kernel
theorem dX8_keepsAt_210 : decode cX8_keepsAt 210 = .ok (.ifCond .ne 10, 3) := by decide +kernel
theorem dX8_keepsAt_213 : decode cX8_keepsAt 213 = .ok (.aload_n 0, 1) := by decide +kernel
theorem dX8_keepsAt_214 : decode cX8_keepsAt 214 = .ok (.getfield 92, 3) := by decide +kernel
theorem dX8_keepsAt_217 : decode cX8_keepsAt 217 = .ok (.ifCond .eq 7, 3) := by decide +kernel
theorem dX8_keepsAt_220 : decode cX8_keepsAt 220 = .ok (.iconst 1, 1) := by decide +kernel
theorem dX8_keepsAt_221 : decode cX8_keepsAt 221 = .ok (.goto 4, 3) := by decide +kernel
theorem dX8_keepsAt_224 : decode cX8_keepsAt 224 = .ok (.iconst 0, 1) := by decide +kernel
theorem dX8_keepsAt_225 : decode cX8_keepsAt 225 = .ok (.bastore, 1) := by decide +kernel
theorem dX8_keepsAt_226 : decode cX8_keepsAt 226 = .ok (.aload_n 0, 1) := by decide +kernel
theorem dX8_keepsAt_227 : decode cX8_keepsAt 227 = .ok (.getfield 57, 3) := by decide +kernel
theorem dX8_keepsAt_230 : decode cX8_keepsAt 230 = .ok (.iload_n 3, 1) := by decide +kernel
theorem dX8_keepsAt_231 : decode cX8_keepsAt 231 = .ok (.iload 6, 2) := by decide +kernel
theorem dX8_keepsAt_233 : decode cX8_keepsAt 233 = .ok (.ifCond .ne 10, 3) := by decide +kernel
theorem dX8_keepsAt_236 : decode cX8_keepsAt 236 = .ok (.aload_n 0, 1) := by decide +kernel
theorem dX8_keepsAt_237 : decode cX8_keepsAt 237 = .ok (.getfield 96, 3) := by decide +kernel
theorem dX8_keepsAt_240 : decode cX8_keepsAt 240 = .ok (.goto 44, 3) := by decide +kernel
theorem dX8_keepsAt_243 : decode cX8_keepsAt 243 = .ok (.aload_n 0, 1) := by decide +kernel
theorem dX8_keepsAt_244 : decode cX8_keepsAt 244 = .ok (.getfield 92, 3) := by decide +kernel
theorem dX8_keepsAt_247 : decode cX8_keepsAt 247 = .ok (.ifCond .eq 25, 3) := by decide +kernel
theorem dX8_keepsAt_250 : decode cX8_keepsAt 250 = .ok (.ldc2_w 137, 3) := by decide +kernel
theorem dX8_keepsAt_253 : decode cX8_keepsAt 253 = .ok (.aload_n 0, 1) := by decide +kernel
theorem dX8_keepsAt_254 : decode cX8_keepsAt 254 = .ok (.getfield 57, 3) := by decide +kernel
theorem dX8_keepsAt_257 : decode cX8_keepsAt 257 = .ok (.iload_n 3, 1) := by decide +kernel
theorem dX8_keepsAt_258 : decode cX8_keepsAt 258 = .ok (.iconst 1, 1) := by decide +kernel
theorem dX8_keepsAt_259 : decode cX8_keepsAt 259 = .ok (.isub, 1) := by decide +kernel
theorem dX8_keepsAt_260 : decode cX8_keepsAt 260 = .ok (.laload, 1) := by decide +kernel
theorem dX8_keepsAt_261 : decode cX8_keepsAt 261 = .ok (.lmul, 1) := by decide +kernel
theorem dX8_keepsAt_262 : decode cX8_keepsAt 262 = .ok (.aload_n 0, 1) := by decide +kernel
theorem dX8_keepsAt_263 : decode cX8_keepsAt 263 = .ok (.getfield 96, 3) := by decide +kernel
theorem dX8_keepsAt_266 : decode cX8_keepsAt 266 = .ok (.invokestatic 107, 3) := by decide +kernel
theorem dX8_keepsAt_269 : decode cX8_keepsAt 269 = .ok (.goto 15, 3) := by decide +kernel
theorem dX8_keepsAt_272 : decode cX8_keepsAt 272 = .ok (.ldc2_w 137, 3) := by decide +kernel
theorem dX8_keepsAt_275 : decode cX8_keepsAt 275 = .ok (.aload_n 0, 1) := by decide +kernel
theorem dX8_keepsAt_276 : decode cX8_keepsAt 276 = .ok (.getfield 57, 3) := by decide +kernel
theorem dX8_keepsAt_279 : decode cX8_keepsAt 279 = .ok (.iload_n 3, 1) := by decide +kernel
theorem dX8_keepsAt_280 : decode cX8_keepsAt 280 = .ok (.iconst 1, 1) := by decide +kernel
theorem dX8_keepsAt_281 : decode cX8_keepsAt 281 = .ok (.isub, 1) := by decide +kernel
theorem dX8_keepsAt_282 : decode cX8_keepsAt 282 = .ok (.laload, 1) := by decide +kernel
theorem dX8_keepsAt_283 : decode cX8_keepsAt 283 = .ok (.lmul, 1) := by decide +kernel
theorem dX8_keepsAt_284 : decode cX8_keepsAt 284 = .ok (.lastore, 1) := by decide +kernel
theorem dX8_keepsAt_285 : decode cX8_keepsAt 285 = .ok (.aload_n 0, 1) := by decide +kernel
theorem dX8_keepsAt_286 : decode cX8_keepsAt 286 = .ok (.getfield 60, 3) := by decide +kernel
theorem dX8_keepsAt_289 : decode cX8_keepsAt 289 = .ok (.iload_n 3, 1) := by decide +kernel
theorem dX8_keepsAt_290 : decode cX8_keepsAt 290 = .ok (.iload 6, 2) := by decide +kernel
theorem dX8_keepsAt_292 : decode cX8_keepsAt 292 = .ok (.ifCond .ne 10, 3) := by decide +kernel
theorem dX8_keepsAt_295 : decode cX8_keepsAt 295 = .ok (.aload_n 0, 1) := by decide +kernel
theorem dX8_keepsAt_296 : decode cX8_keepsAt 296 = .ok (.getfield 100, 3) := by decide +kernel
theorem dX8_keepsAt_299 : decode cX8_keepsAt 299 = .ok (.goto 44, 3) := by decide +kernel
theorem dX8_keepsAt_302 : decode cX8_keepsAt 302 = .ok (.aload_n 0, 1) := by decide +kernel
theorem dX8_keepsAt_303 : decode cX8_keepsAt 303 = .ok (.getfield 92, 3) := by decide +kernel
theorem dX8_keepsAt_306 : decode cX8_keepsAt 306 = .ok (.ifCond .eq 25, 3) := by decide +kernel
theorem dX8_keepsAt_309 : decode cX8_keepsAt 309 = .ok (.ldc2_w 137, 3) := by decide +kernel
theorem dX8_keepsAt_312 : decode cX8_keepsAt 312 = .ok (.aload_n 0, 1) := by decide +kernel
theorem dX8_keepsAt_313 : decode cX8_keepsAt 313 = .ok (.getfield 60, 3) := by decide +kernel
theorem dX8_keepsAt_316 : decode cX8_keepsAt 316 = .ok (.iload_n 3, 1) := by decide +kernel
theorem dX8_keepsAt_317 : decode cX8_keepsAt 317 = .ok (.iconst 1, 1) := by decide +kernel
theorem dX8_keepsAt_318 : decode cX8_keepsAt 318 = .ok (.isub, 1) := by decide +kernel
theorem dX8_keepsAt_319 : decode cX8_keepsAt 319 = .ok (.laload, 1) := by decide +kernel
theorem dX8_keepsAt_320 : decode cX8_keepsAt 320 = .ok (.lmul, 1) := by decide +kernel
theorem dX8_keepsAt_321 : decode cX8_keepsAt 321 = .ok (.aload_n 0, 1) := by decide +kernel
theorem dX8_keepsAt_322 : decode cX8_keepsAt 322 = .ok (.getfield 100, 3) := by decide +kernel
theorem dX8_keepsAt_325 : decode cX8_keepsAt 325 = .ok (.invokestatic 103, 3) := by decide +kernel
theorem dX8_keepsAt_328 : decode cX8_keepsAt 328 = .ok (.goto 15, 3) := by decide +kernel
theorem dX8_keepsAt_331 : decode cX8_keepsAt 331 = .ok (.ldc2_w 137, 3) := by decide +kernel
theorem dX8_keepsAt_334 : decode cX8_keepsAt 334 = .ok (.aload_n 0, 1) := by decide +kernel
theorem dX8_keepsAt_335 : decode cX8_keepsAt 335 = .ok (.getfield 60, 3) := by decide +kernel
theorem dX8_keepsAt_338 : decode cX8_keepsAt 338 = .ok (.iload_n 3, 1) := by decide +kernel
theorem dX8_keepsAt_339 : decode cX8_keepsAt 339 = .ok (.iconst 1, 1) := by decide +kernel
theorem dX8_keepsAt_340 : decode cX8_keepsAt 340 = .ok (.isub, 1) := by decide +kernel
theorem dX8_keepsAt_341 : decode cX8_keepsAt 341 = .ok (.laload, 1) := by decide +kernel
theorem dX8_keepsAt_342 : decode cX8_keepsAt 342 = .ok (.lmul, 1) := by decide +kernel
theorem dX8_keepsAt_343 : decode cX8_keepsAt 343 = .ok (.lastore, 1) := by decide +kernel
theorem dX8_keepsAt_344 : decode cX8_keepsAt 344 = .ok (.return_, 1) := by decide +kernel
set_option maxRecDepth 20000 in
theorem ggX8_adds_X8_keepsAt : GoodIn wsX8_adds wsX8_keepsAt := goodIn_r _ [9, 3, 4, 10, 11, 12, 13, 14, 15, 16, 17, 18, 19, 20, 21, 22, 8, 23, 1, 24, 25, 26, 27, 28, 29, 30, 31, 32, 33, 34, 35, 36, 37, 38, 39, 40, 41, 42, 43, 44, 45, 46, 47, 48, 49, 50, 51, 52, 53, 54, 55, 56, 57, 58, 59, 60, 61, 62, 63, 64, 65, 66, 67, 68, 69, 70, 71, 72, 73, 74, 75, 76, 77, 78, 79, 80, 81, 82, 83, 84, 85, 86, 87, 88, 89, 90, 91, 92, 93, 94, 95, 96, 97, 98, 99, 100, 101, 102, 103, 104, 105, 106, 107] (by decide +kernel) (by decide +kernel)
set_option maxRecDepth 20000 in
theorem gX8_adds_X8_keepsAt : GoodIn wsX8_adds (wsV RX8 159 RX8 yX8_keepsAt wsX8_keepsAt) := goodIn_app (goodIn_of _ (by decide +kernel)) ggX8_adds_X8_keepsAt
theorem dX8_adds_0 : decode cX8_adds 0 = .ok (.aload_n 0, 1) := by decide +kernel
theorem dX8_adds_1 : decode cX8_adds 1 = .ok (.getfield 7, 3) := by decide +kernel
theorem dX8_adds_4 : decode cX8_adds 4 = .ok (.aload_n 0, 1) := by decide +kernel
theorem dX8_adds_5 : decode cX8_adds 5 = .ok (.getfield 85, 3) := by decide +kernel
theorem dX8_adds_8 : decode cX8_adds 8 = .ok (.iload_n 1, 1) := by decide +kernel
theorem dX8_adds_9 : decode cX8_adds 9 = .ok (.iastore, 1) := by decide +kernel
theorem dX8_adds_10 : decode cX8_adds 10 = .ok (.aload_n 0, 1) := by decide +kernel
theorem dX8_adds_11 : decode cX8_adds 11 = .ok (.getfield 13, 3) := by decide +kernel
theorem dX8_adds_14 : decode cX8_adds 14 = .ok (.aload_n 0, 1) := by decide +kernel
theorem dX8_adds_15 : decode cX8_adds 15 = .ok (.getfield 85, 3) := by decide +kernel
theorem dX8_adds_18 : decode cX8_adds 18 = .ok (.iload_n 2, 1) := by decide +kernel
theorem dX8_adds_19 : decode cX8_adds 19 = .ok (.iastore, 1) := by decide +kernel
theorem dX8_adds_20 : decode cX8_adds 20 = .ok (.aload_n 0, 1) := by decide +kernel
theorem dX8_adds_21 : decode cX8_adds 21 = .ok (.getfield 16, 3) := by decide +kernel
theorem dX8_adds_24 : decode cX8_adds 24 = .ok (.aload_n 0, 1) := by decide +kernel
theorem dX8_adds_25 : decode cX8_adds 25 = .ok (.getfield 85, 3) := by decide +kernel
theorem dX8_adds_28 : decode cX8_adds 28 = .ok (.iload_n 3, 1) := by decide +kernel
theorem dX8_adds_29 : decode cX8_adds 29 = .ok (.iastore, 1) := by decide +kernel
theorem dX8_adds_30 : decode cX8_adds 30 = .ok (.iconst 0, 1) := by decide +kernel
theorem dX8_adds_31 : decode cX8_adds 31 = .ok (.istore 4, 2) := by decide +kernel
theorem dX8_adds_33 : decode cX8_adds 33 = .ok (.iload 4, 2) := by decide +kernel
theorem dX8_adds_35 : decode cX8_adds 35 = .ok (.bipush 25, 2) := by decide +kernel
theorem dX8_adds_37 : decode cX8_adds 37 = .ok (.if_icmp .ge 19, 3) := by decide +kernel
theorem dX8_adds_40 : decode cX8_adds 40 = .ok (.aload_n 0, 1) := by decide +kernel
theorem dX8_adds_41 : decode cX8_adds 41 = .ok (.aload_n 0, 1) := by decide +kernel
theorem dX8_adds_42 : decode cX8_adds 42 = .ok (.getfield 85, 3) := by decide +kernel
theorem dX8_adds_45 : decode cX8_adds 45 = .ok (.iload 4, 2) := by decide +kernel
theorem dX8_adds_47 : decode cX8_adds 47 = .ok (.invokevirtual 159, 3) := by decide +kernel
theorem dX8_adds_50 : decode cX8_adds 50 = .ok (.iinc 4 1, 3) := by decide +kernel
theorem dX8_adds_53 : decode cX8_adds 53 = .ok (.goto (-20), 3) := by decide +kernel
theorem dX8_adds_56 : decode cX8_adds 56 = .ok (.aload_n 0, 1) := by decide +kernel
theorem dX8_adds_57 : decode cX8_adds 57 = .ok (.dup, 1) := by decide +kernel
theorem dX8_adds_58 : decode cX8_adds 58 = .ok (.getfield 85, 3) := by decide +kernel
theorem dX8_adds_61 : decode cX8_adds 61 = .ok (.iconst 1, 1) := by decide +kernel
theorem dX8_adds_62 : decode cX8_adds 62 = .ok (.iadd, 1) := by decide +kernel
theorem dX8_adds_63 : decode cX8_adds 63 = .ok (.putfield 85, 3) := by decide +kernel
theorem dX8_adds_66 : decode cX8_adds 66 = .ok (.aload_n 0, 1) := by decide +kernel
theorem dX8_adds_67 : decode cX8_adds 67 = .ok (.getfield 85, 3) := by decide +kernel
theorem dX8_adds_70 : decode cX8_adds 70 = .ok (.iconst 1, 1) := by decide +kernel
theorem dX8_adds_71 : decode cX8_adds 71 = .ok (.isub, 1) := by decide +kernel
theorem dX8_adds_72 : decode cX8_adds 72 = .ok (.ireturn, 1) := by decide +kernel
set_option maxRecDepth 20000 in
theorem ggX8_ratio_X8_in : GoodIn wsX8_ratio wsX8_in := goodIn_r _ [7] (by decide +kernel) (by decide +kernel)
set_option maxRecDepth 20000 in
theorem gX8_ratio_X8_in : GoodIn wsX8_ratio (va_wsS RX8 88 yX8_in wsX8_in) := goodIn_app (goodIn_of _ (by decide +kernel)) ggX8_ratio_X8_in
set_option maxRecDepth 20000 in
theorem ggX8_ratio_X8_holds : GoodIn wsX8_ratio wsX8_holds := goodIn_r _ [11, 12, 92, 93, 94, 95, 96, 97, 98, 99, 100, 101, 102, 103, 104, 105, 106, 107, 108, 109, 110, 111, 112, 113, 114, 115, 116, 117, 118, 119] (by decide +kernel) (by decide +kernel)
set_option maxRecDepth 20000 in
theorem gX8_ratio_X8_holds : GoodIn wsX8_ratio (wsV RX8 162 RX8 yX8_holds wsX8_holds) := goodIn_app (goodIn_of _ (by decide +kernel)) ggX8_ratio_X8_holds
set_option maxRecDepth 20000 in
theorem ggX8_ratio_X8_adds : GoodIn wsX8_ratio wsX8_adds := goodIn_r _ [16, 17, 1, 18, 19, 20, 21, 22, 6, 23, 24, 25, 26, 27, 28, 29, 30, 31, 32, 33, 34, 35, 36, 37, 2, 3, 38, 39, 40, 41, 42, 43, 44, 45, 46, 47, 48, 49, 50, 51, 52, 53, 54, 55, 56, 57, 58, 59, 60, 61, 62, 63, 64, 65, 66, 67, 68, 69, 70, 71, 72, 73, 74, 75, 76, 77, 78, 79, 80, 81, 82, 83, 84, 85, 86, 87, 88, 89, 90, 91, 92, 93, 94, 95, 96, 97, 98, 99, 100, 101, 102, 103, 104, 105, 106, 107, 108, 109, 110, 111, 112, 113, 114, 115, 116, 117, 118, 119] (by decide +kernel) (by decide +kernel)
set_option maxRecDepth 20000 in
theorem gX8_ratio_X8_adds : GoodIn wsX8_ratio (wsV RX8 166 RX8 yX8_adds wsX8_adds) := goodIn_app (goodIn_of _ (by decide +kernel)) ggX8_ratio_X8_adds
theorem dX8_ratio_0 : decode cX8_ratio 0 = .ok (.iload_n 1, 1) := by decide +kernel
theorem dX8_ratio_1 : decode cX8_ratio 1 = .ok (.sipush (-1000), 3) := by decide +kernel
theorem dX8_ratio_4 : decode cX8_ratio 4 = .ok (.sipush 1000, 3) := by decide +kernel
theorem dX8_ratio_7 : decode cX8_ratio 7 = .ok (.invokestatic 88, 3) := by decide +kernel
theorem dX8_ratio_10 : decode cX8_ratio 10 = .ok (.ifCond .eq 18, 3) := by decide +kernel
theorem dX8_ratio_13 : decode cX8_ratio 13 = .ok (.iload_n 2, 1) := by decide +kernel
theorem dX8_ratio_14 : decode cX8_ratio 14 = .ok (.iconst 1, 1) := by decide +kernel
theorem dX8_ratio_15 : decode cX8_ratio 15 = .ok (.sipush 1000, 3) := by decide +kernel
theorem dX8_ratio_18 : decode cX8_ratio 18 = .ok (.invokestatic 88, 3) := by decide +kernel
theorem dX8_ratio_21 : decode cX8_ratio 21 = .ok (.ifCond .eq 7, 3) := by decide +kernel
theorem dX8_ratio_24 : decode cX8_ratio 24 = .ok (.iconst 1, 1) := by decide +kernel
theorem dX8_ratio_25 : decode cX8_ratio 25 = .ok (.goto 4, 3) := by decide +kernel
theorem dX8_ratio_28 : decode cX8_ratio 28 = .ok (.iconst 0, 1) := by decide +kernel
theorem dX8_ratio_29 : decode cX8_ratio 29 = .ok (.istore_n 3, 1) := by decide +kernel
theorem dX8_ratio_30 : decode cX8_ratio 30 = .ok (.aload_n 0, 1) := by decide +kernel
theorem dX8_ratio_31 : decode cX8_ratio 31 = .ok (.iload_n 3, 1) := by decide +kernel
theorem dX8_ratio_32 : decode cX8_ratio 32 = .ok (.ifCond .ne 7, 3) := by decide +kernel
theorem dX8_ratio_35 : decode cX8_ratio 35 = .ok (.iconst 1, 1) := by decide +kernel
theorem dX8_ratio_36 : decode cX8_ratio 36 = .ok (.goto 17, 3) := by decide +kernel
theorem dX8_ratio_39 : decode cX8_ratio 39 = .ok (.aload_n 0, 1) := by decide +kernel
theorem dX8_ratio_40 : decode cX8_ratio 40 = .ok (.getfield 85, 3) := by decide +kernel
theorem dX8_ratio_43 : decode cX8_ratio 43 = .ok (.bipush 40, 2) := by decide +kernel
theorem dX8_ratio_45 : decode cX8_ratio 45 = .ok (.if_icmp .ne 7, 3) := by decide +kernel
theorem dX8_ratio_48 : decode cX8_ratio 48 = .ok (.iconst 2, 1) := by decide +kernel
theorem dX8_ratio_49 : decode cX8_ratio 49 = .ok (.goto 4, 3) := by decide +kernel
theorem dX8_ratio_52 : decode cX8_ratio 52 = .ok (.iconst 0, 1) := by decide +kernel
theorem dX8_ratio_53 : decode cX8_ratio 53 = .ok (.invokevirtual 162, 3) := by decide +kernel
theorem dX8_ratio_56 : decode cX8_ratio 56 = .ok (.ifCond .ne 5, 3) := by decide +kernel
theorem dX8_ratio_59 : decode cX8_ratio 59 = .ok (.iconst 0, 1) := by decide +kernel
theorem dX8_ratio_60 : decode cX8_ratio 60 = .ok (.ireturn, 1) := by decide +kernel
theorem dX8_ratio_61 : decode cX8_ratio 61 = .ok (.aload_n 0, 1) := by decide +kernel
theorem dX8_ratio_62 : decode cX8_ratio 62 = .ok (.getfield 19, 3) := by decide +kernel
theorem dX8_ratio_65 : decode cX8_ratio 65 = .ok (.aload_n 0, 1) := by decide +kernel
theorem dX8_ratio_66 : decode cX8_ratio 66 = .ok (.getfield 85, 3) := by decide +kernel
theorem dX8_ratio_69 : decode cX8_ratio 69 = .ok (.iload_n 1, 1) := by decide +kernel
theorem dX8_ratio_70 : decode cX8_ratio 70 = .ok (.iastore, 1) := by decide +kernel
theorem dX8_ratio_71 : decode cX8_ratio 71 = .ok (.aload_n 0, 1) := by decide +kernel
theorem dX8_ratio_72 : decode cX8_ratio 72 = .ok (.getfield 22, 3) := by decide +kernel
theorem dX8_ratio_75 : decode cX8_ratio 75 = .ok (.aload_n 0, 1) := by decide +kernel
theorem dX8_ratio_76 : decode cX8_ratio 76 = .ok (.getfield 85, 3) := by decide +kernel
theorem dX8_ratio_79 : decode cX8_ratio 79 = .ok (.iload_n 2, 1) := by decide +kernel
theorem dX8_ratio_80 : decode cX8_ratio 80 = .ok (.iastore, 1) := by decide +kernel
theorem dX8_ratio_81 : decode cX8_ratio 81 = .ok (.aload_n 0, 1) := by decide +kernel
theorem dX8_ratio_82 : decode cX8_ratio 82 = .ok (.iconst 0, 1) := by decide +kernel
theorem dX8_ratio_83 : decode cX8_ratio 83 = .ok (.iconst (-1), 1) := by decide +kernel
theorem dX8_ratio_84 : decode cX8_ratio 84 = .ok (.iconst (-1), 1) := by decide +kernel
theorem dX8_ratio_85 : decode cX8_ratio 85 = .ok (.invokevirtual 166, 3) := by decide +kernel
theorem dX8_ratio_88 : decode cX8_ratio 88 = .ok (.ireturn, 1) := by decide +kernel
set_option maxRecDepth 20000 in
theorem ggX8_ofTwo_X8_isProgram : GoodIn wsX8_ofTwo wsX8_isProgram := goodIn_r _ [6, 1, 7, 8, 5, 9, 96, 97, 98, 99, 100, 101, 102, 103, 104, 105, 106, 107, 108, 109, 110, 111, 112, 113, 114, 115, 116, 117, 118, 119, 120, 121, 122, 123] (by decide +kernel) (by decide +kernel)
set_option maxRecDepth 20000 in
theorem gX8_ofTwo_X8_isProgram : GoodIn wsX8_ofTwo (wsV RX8 170 RX8 yX8_isProgram wsX8_isProgram) := goodIn_app (goodIn_of _ (by decide +kernel)) ggX8_ofTwo_X8_isProgram
set_option maxRecDepth 20000 in
theorem ggX8_ofTwo_X8_holds : GoodIn wsX8_ofTwo wsX8_holds := goodIn_r _ [13, 14, 96, 97, 98, 99, 100, 101, 102, 103, 104, 105, 106, 107, 108, 109, 110, 111, 112, 113, 114, 115, 116, 117, 118, 119, 120, 121, 122, 123] (by decide +kernel) (by decide +kernel)
set_option maxRecDepth 20000 in
theorem gX8_ofTwo_X8_holds : GoodIn wsX8_ofTwo (wsV RX8 162 RX8 yX8_holds wsX8_holds) := goodIn_app (goodIn_of _ (by decide +kernel)) ggX8_ofTwo_X8_holds
set_option maxRecDepth 20000 in
theorem ggX8_ofTwo_X8_adds : GoodIn wsX8_ofTwo wsX8_adds := goodIn_r _ [18, 19, 1, 20, 21, 22, 23, 24, 5, 25, 26, 27, 28, 29, 30, 31, 32, 33, 34, 35, 36, 37, 38, 39, 40, 41, 42, 43, 44, 45, 46, 47, 48, 49, 50, 51, 52, 53, 54, 55, 56, 57, 58, 59, 60, 61, 62, 63, 64, 65, 66, 67, 68, 69, 70, 71, 72, 73, 74, 75, 76, 77, 78, 79, 80, 81, 82, 83, 84, 85, 86, 87, 88, 89, 90, 91, 92, 93, 94, 95, 96, 97, 98, 99, 100, 101, 102, 103, 104, 105, 106, 107, 108, 109, 110, 111, 112, 113, 114, 115, 116, 117, 118, 119, 120, 121, 122, 123] (by decide +kernel) (by decide +kernel)
set_option maxRecDepth 20000 in
theorem gX8_ofTwo_X8_adds : GoodIn wsX8_ofTwo (wsV RX8 166 RX8 yX8_adds wsX8_adds) := goodIn_app (goodIn_of _ (by decide +kernel)) ggX8_ofTwo_X8_adds
theorem dX8_ofTwo_0 : decode cX8_ofTwo 0 = .ok (.aload_n 0, 1) := by decide +kernel
theorem dX8_ofTwo_1 : decode cX8_ofTwo 1 = .ok (.iload_n 2, 1) := by decide +kernel
theorem dX8_ofTwo_2 : decode cX8_ofTwo 2 = .ok (.invokevirtual 170, 3) := by decide +kernel
theorem dX8_ofTwo_5 : decode cX8_ofTwo 5 = .ok (.ifCond .eq 15, 3) := by decide +kernel
theorem dX8_ofTwo_8 : decode cX8_ofTwo 8 = .ok (.aload_n 0, 1) := by decide +kernel
theorem dX8_ofTwo_9 : decode cX8_ofTwo 9 = .ok (.iload_n 3, 1) := by decide +kernel
theorem dX8_ofTwo_10 : decode cX8_ofTwo 10 = .ok (.invokevirtual 170, 3) := by decide +kernel
theorem dX8_ofTwo_13 : decode cX8_ofTwo 13 = .ok (.ifCond .eq 7, 3) := by decide +kernel
theorem dX8_ofTwo_16 : decode cX8_ofTwo 16 = .ok (.iconst 1, 1) := by decide +kernel
theorem dX8_ofTwo_17 : decode cX8_ofTwo 17 = .ok (.goto 4, 3) := by decide +kernel
theorem dX8_ofTwo_20 : decode cX8_ofTwo 20 = .ok (.iconst 0, 1) := by decide +kernel
theorem dX8_ofTwo_21 : decode cX8_ofTwo 21 = .ok (.istore 4, 2) := by decide +kernel
theorem dX8_ofTwo_23 : decode cX8_ofTwo 23 = .ok (.aload_n 0, 1) := by decide +kernel
theorem dX8_ofTwo_24 : decode cX8_ofTwo 24 = .ok (.iload 4, 2) := by decide +kernel
theorem dX8_ofTwo_26 : decode cX8_ofTwo 26 = .ok (.ifCond .ne 7, 3) := by decide +kernel
theorem dX8_ofTwo_29 : decode cX8_ofTwo 29 = .ok (.iconst 1, 1) := by decide +kernel
theorem dX8_ofTwo_30 : decode cX8_ofTwo 30 = .ok (.goto 17, 3) := by decide +kernel
theorem dX8_ofTwo_33 : decode cX8_ofTwo 33 = .ok (.aload_n 0, 1) := by decide +kernel
theorem dX8_ofTwo_34 : decode cX8_ofTwo 34 = .ok (.getfield 85, 3) := by decide +kernel
theorem dX8_ofTwo_37 : decode cX8_ofTwo 37 = .ok (.bipush 40, 2) := by decide +kernel
theorem dX8_ofTwo_39 : decode cX8_ofTwo 39 = .ok (.if_icmp .ne 7, 3) := by decide +kernel
theorem dX8_ofTwo_42 : decode cX8_ofTwo 42 = .ok (.iconst 2, 1) := by decide +kernel
theorem dX8_ofTwo_43 : decode cX8_ofTwo 43 = .ok (.goto 4, 3) := by decide +kernel
theorem dX8_ofTwo_46 : decode cX8_ofTwo 46 = .ok (.iconst 0, 1) := by decide +kernel
theorem dX8_ofTwo_47 : decode cX8_ofTwo 47 = .ok (.invokevirtual 162, 3) := by decide +kernel
theorem dX8_ofTwo_50 : decode cX8_ofTwo 50 = .ok (.ifCond .eq 13, 3) := by decide +kernel
theorem dX8_ofTwo_53 : decode cX8_ofTwo 53 = .ok (.aload_n 0, 1) := by decide +kernel
theorem dX8_ofTwo_54 : decode cX8_ofTwo 54 = .ok (.iload_n 1, 1) := by decide +kernel
theorem dX8_ofTwo_55 : decode cX8_ofTwo 55 = .ok (.iload_n 2, 1) := by decide +kernel
theorem dX8_ofTwo_56 : decode cX8_ofTwo 56 = .ok (.iload_n 3, 1) := by decide +kernel
theorem dX8_ofTwo_57 : decode cX8_ofTwo 57 = .ok (.invokevirtual 166, 3) := by decide +kernel
theorem dX8_ofTwo_60 : decode cX8_ofTwo 60 = .ok (.goto 4, 3) := by decide +kernel
theorem dX8_ofTwo_63 : decode cX8_ofTwo 63 = .ok (.iconst 0, 1) := by decide +kernel
theorem dX8_ofTwo_64 : decode cX8_ofTwo 64 = .ok (.ireturn, 1) := by decide +kernel
set_option maxRecDepth 20000 in
theorem ggX8_ofOne_X8_isProgram : GoodIn wsX8_ofOne wsX8_isProgram := goodIn_r _ [6, 1, 7, 8, 5, 9, 96, 97, 98, 99, 100, 101, 102, 103, 104, 105, 106, 107, 108, 109, 110, 111, 112, 113, 114, 115, 116, 117, 118, 119, 120, 121, 122, 123] (by decide +kernel) (by decide +kernel)
set_option maxRecDepth 20000 in
theorem gX8_ofOne_X8_isProgram : GoodIn wsX8_ofOne (wsV RX8 170 RX8 yX8_isProgram wsX8_isProgram) := goodIn_app (goodIn_of _ (by decide +kernel)) ggX8_ofOne_X8_isProgram
set_option maxRecDepth 20000 in
theorem ggX8_ofOne_X8_holds : GoodIn wsX8_ofOne wsX8_holds := goodIn_r _ [13, 14, 96, 97, 98, 99, 100, 101, 102, 103, 104, 105, 106, 107, 108, 109, 110, 111, 112, 113, 114, 115, 116, 117, 118, 119, 120, 121, 122, 123] (by decide +kernel) (by decide +kernel)
set_option maxRecDepth 20000 in
theorem gX8_ofOne_X8_holds : GoodIn wsX8_ofOne (wsV RX8 162 RX8 yX8_holds wsX8_holds) := goodIn_app (goodIn_of _ (by decide +kernel)) ggX8_ofOne_X8_holds
set_option maxRecDepth 20000 in
theorem ggX8_ofOne_X8_adds : GoodIn wsX8_ofOne wsX8_adds := goodIn_r _ [18, 19, 1, 20, 21, 22, 23, 24, 5, 25, 26, 27, 28, 29, 30, 31, 32, 33, 34, 35, 36, 37, 38, 39, 40, 41, 42, 43, 44, 45, 46, 47, 48, 49, 50, 51, 52, 53, 54, 55, 56, 57, 58, 59, 60, 61, 62, 63, 64, 65, 66, 67, 68, 69, 70, 71, 72, 73, 74, 75, 76, 77, 78, 79, 80, 81, 82, 83, 84, 85, 86, 87, 88, 89, 90, 91, 92, 93, 94, 95, 96, 97, 98, 99, 100, 101, 102, 103, 104, 105, 106, 107, 108, 109, 110, 111, 112, 113, 114, 115, 116, 117, 118, 119, 120, 121, 122, 123] (by decide +kernel) (by decide +kernel)
set_option maxRecDepth 20000 in
theorem gX8_ofOne_X8_adds : GoodIn wsX8_ofOne (wsV RX8 166 RX8 yX8_adds wsX8_adds) := goodIn_app (goodIn_of _ (by decide +kernel)) ggX8_ofOne_X8_adds
theorem dX8_ofOne_0 : decode cX8_ofOne 0 = .ok (.aload_n 0, 1) := by decide +kernel
theorem dX8_ofOne_1 : decode cX8_ofOne 1 = .ok (.aload_n 0, 1) := by decide +kernel
theorem dX8_ofOne_2 : decode cX8_ofOne 2 = .ok (.iload_n 2, 1) := by decide +kernel
theorem dX8_ofOne_3 : decode cX8_ofOne 3 = .ok (.invokevirtual 170, 3) := by decide +kernel
theorem dX8_ofOne_6 : decode cX8_ofOne 6 = .ok (.ifCond .ne 7, 3) := by decide +kernel
theorem dX8_ofOne_9 : decode cX8_ofOne 9 = .ok (.iconst 1, 1) := by decide +kernel
theorem dX8_ofOne_10 : decode cX8_ofOne 10 = .ok (.goto 17, 3) := by decide +kernel
theorem dX8_ofOne_13 : decode cX8_ofOne 13 = .ok (.aload_n 0, 1) := by decide +kernel
theorem dX8_ofOne_14 : decode cX8_ofOne 14 = .ok (.getfield 85, 3) := by decide +kernel
theorem dX8_ofOne_17 : decode cX8_ofOne 17 = .ok (.bipush 40, 2) := by decide +kernel
theorem dX8_ofOne_19 : decode cX8_ofOne 19 = .ok (.if_icmp .ne 7, 3) := by decide +kernel
theorem dX8_ofOne_22 : decode cX8_ofOne 22 = .ok (.iconst 2, 1) := by decide +kernel
theorem dX8_ofOne_23 : decode cX8_ofOne 23 = .ok (.goto 4, 3) := by decide +kernel
theorem dX8_ofOne_26 : decode cX8_ofOne 26 = .ok (.iconst 0, 1) := by decide +kernel
theorem dX8_ofOne_27 : decode cX8_ofOne 27 = .ok (.invokevirtual 162, 3) := by decide +kernel
theorem dX8_ofOne_30 : decode cX8_ofOne 30 = .ok (.ifCond .eq 13, 3) := by decide +kernel
theorem dX8_ofOne_33 : decode cX8_ofOne 33 = .ok (.aload_n 0, 1) := by decide +kernel
theorem dX8_ofOne_34 : decode cX8_ofOne 34 = .ok (.iload_n 1, 1) := by decide +kernel
theorem dX8_ofOne_35 : decode cX8_ofOne 35 = .ok (.iload_n 2, 1) := by decide +kernel
theorem dX8_ofOne_36 : decode cX8_ofOne 36 = .ok (.iconst (-1), 1) := by decide +kernel
theorem dX8_ofOne_37 : decode cX8_ofOne 37 = .ok (.invokevirtual 166, 3) := by decide +kernel
theorem dX8_ofOne_40 : decode cX8_ofOne 40 = .ok (.goto 4, 3) := by decide +kernel
theorem dX8_ofOne_43 : decode cX8_ofOne 43 = .ok (.iconst 0, 1) := by decide +kernel
theorem dX8_ofOne_44 : decode cX8_ofOne 44 = .ok (.ireturn, 1) := by decide +kernel
set_option maxRecDepth 20000 in
theorem ggX8_sum_X8_ofTwo : GoodIn wsX8_sum wsX8_ofTwo := goodIn_r _ [5, 6, 7, 8, 9, 4, 10, 11, 12, 13, 14, 15, 16, 17, 18, 19, 20, 21, 22, 23, 24, 25, 26, 27, 28, 29, 30, 31, 32, 33, 34, 35, 36, 37, 38, 39, 40, 41, 42, 43, 44, 45, 46, 47, 48, 49, 50, 51, 52, 53, 54, 55, 56, 57, 58, 59, 60, 61, 62, 63, 64, 65, 66, 67, 68, 69, 70, 71, 72, 73, 74, 75, 76, 77, 78, 79, 80, 81, 82, 83, 84, 85, 86, 87, 88, 89, 90, 91, 92, 93, 94, 95, 96, 97, 98, 99, 100, 101, 102, 103, 104, 105, 106, 107, 108, 109, 110, 111, 112, 113, 114, 115, 116, 117, 118, 119, 120, 121, 122, 123, 124, 125, 126, 127] (by decide +kernel) (by decide +kernel)
set_option maxRecDepth 20000 in
theorem gX8_sum_X8_ofTwo : GoodIn wsX8_sum (wsV RX8 173 RX8 yX8_ofTwo wsX8_ofTwo) := goodIn_app (goodIn_of _ (by decide +kernel)) ggX8_sum_X8_ofTwo
theorem dX8_sum_0 : decode cX8_sum 0 = .ok (.aload_n 0, 1) := by decide +kernel
theorem dX8_sum_1 : decode cX8_sum 1 = .ok (.iconst 1, 1) := by decide +kernel
theorem dX8_sum_2 : decode cX8_sum 2 = .ok (.iload_n 1, 1) := by decide +kernel
theorem dX8_sum_3 : decode cX8_sum 3 = .ok (.iload_n 2, 1) := by decide +kernel
theorem dX8_sum_4 : decode cX8_sum 4 = .ok (.invokevirtual 173, 3) := by decide +kernel
theorem dX8_sum_7 : decode cX8_sum 7 = .ok (.ireturn, 1) := by decide +kernel
set_option maxRecDepth 20000 in
theorem ggX8_difference_X8_ofTwo : GoodIn wsX8_difference wsX8_ofTwo := goodIn_r _ [5, 6, 7, 8, 9, 4, 10, 11, 12, 13, 14, 15, 16, 17, 18, 19, 20, 21, 22, 23, 24, 25, 26, 27, 28, 29, 30, 31, 32, 33, 34, 35, 36, 37, 38, 39, 40, 41, 42, 43, 44, 45, 46, 47, 48, 49, 50, 51, 52, 53, 54, 55, 56, 57, 58, 59, 60, 61, 62, 63, 64, 65, 66, 67, 68, 69, 70, 71, 72, 73, 74, 75, 76, 77, 78, 79, 80, 81, 82, 83, 84, 85, 86, 87, 88, 89, 90, 91, 92, 93, 94, 95, 96, 97, 98, 99, 100, 101, 102, 103, 104, 105, 106, 107, 108, 109, 110, 111, 112, 113, 114, 115, 116, 117, 118, 119, 120, 121, 122, 123, 124, 125, 126, 127] (by decide +kernel) (by decide +kernel)
set_option maxRecDepth 20000 in
theorem gX8_difference_X8_ofTwo : GoodIn wsX8_difference (wsV RX8 173 RX8 yX8_ofTwo wsX8_ofTwo) := goodIn_app (goodIn_of _ (by decide +kernel)) ggX8_difference_X8_ofTwo
theorem dX8_difference_0 : decode cX8_difference 0 = .ok (.aload_n 0, 1) := by decide +kernel
theorem dX8_difference_1 : decode cX8_difference 1 = .ok (.iconst 2, 1) := by decide +kernel
theorem dX8_difference_2 : decode cX8_difference 2 = .ok (.iload_n 1, 1) := by decide +kernel
theorem dX8_difference_3 : decode cX8_difference 3 = .ok (.iload_n 2, 1) := by decide +kernel
theorem dX8_difference_4 : decode cX8_difference 4 = .ok (.invokevirtual 173, 3) := by decide +kernel
theorem dX8_difference_7 : decode cX8_difference 7 = .ok (.ireturn, 1) := by decide +kernel
set_option maxRecDepth 20000 in
theorem ggX8_product_X8_ofTwo : GoodIn wsX8_product wsX8_ofTwo := goodIn_r _ [5, 6, 7, 8, 9, 4, 10, 11, 12, 13, 14, 15, 16, 17, 18, 19, 20, 21, 22, 23, 24, 25, 26, 27, 28, 29, 30, 31, 32, 33, 34, 35, 36, 37, 38, 39, 40, 41, 42, 43, 44, 45, 46, 47, 48, 49, 50, 51, 52, 53, 54, 55, 56, 57, 58, 59, 60, 61, 62, 63, 64, 65, 66, 67, 68, 69, 70, 71, 72, 73, 74, 75, 76, 77, 78, 79, 80, 81, 82, 83, 84, 85, 86, 87, 88, 89, 90, 91, 92, 93, 94, 95, 96, 97, 98, 99, 100, 101, 102, 103, 104, 105, 106, 107, 108, 109, 110, 111, 112, 113, 114, 115, 116, 117, 118, 119, 120, 121, 122, 123, 124, 125, 126, 127] (by decide +kernel) (by decide +kernel)
set_option maxRecDepth 20000 in
theorem gX8_product_X8_ofTwo : GoodIn wsX8_product (wsV RX8 173 RX8 yX8_ofTwo wsX8_ofTwo) := goodIn_app (goodIn_of _ (by decide +kernel)) ggX8_product_X8_ofTwo
theorem dX8_product_0 : decode cX8_product 0 = .ok (.aload_n 0, 1) := by decide +kernel
theorem dX8_product_1 : decode cX8_product 1 = .ok (.iconst 3, 1) := by decide +kernel
theorem dX8_product_2 : decode cX8_product 2 = .ok (.iload_n 1, 1) := by decide +kernel
theorem dX8_product_3 : decode cX8_product 3 = .ok (.iload_n 2, 1) := by decide +kernel
theorem dX8_product_4 : decode cX8_product 4 = .ok (.invokevirtual 173, 3) := by decide +kernel
theorem dX8_product_7 : decode cX8_product 7 = .ok (.ireturn, 1) := by decide +kernel
set_option maxRecDepth 20000 in
theorem ggX8_greater_X8_ofTwo : GoodIn wsX8_greater wsX8_ofTwo := goodIn_r _ [5, 6, 7, 8, 9, 4, 10, 11, 12, 13, 14, 15, 16, 17, 18, 19, 20, 21, 22, 23, 24, 25, 26, 27, 28, 29, 30, 31, 32, 33, 34, 35, 36, 37, 38, 39, 40, 41, 42, 43, 44, 45, 46, 47, 48, 49, 50, 51, 52, 53, 54, 55, 56, 57, 58, 59, 60, 61, 62, 63, 64, 65, 66, 67, 68, 69, 70, 71, 72, 73, 74, 75, 76, 77, 78, 79, 80, 81, 82, 83, 84, 85, 86, 87, 88, 89, 90, 91, 92, 93, 94, 95, 96, 97, 98, 99, 100, 101, 102, 103, 104, 105, 106, 107, 108, 109, 110, 111, 112, 113, 114, 115, 116, 117, 118, 119, 120, 121, 122, 123, 124, 125, 126, 127] (by decide +kernel) (by decide +kernel)
set_option maxRecDepth 20000 in
theorem gX8_greater_X8_ofTwo : GoodIn wsX8_greater (wsV RX8 173 RX8 yX8_ofTwo wsX8_ofTwo) := goodIn_app (goodIn_of _ (by decide +kernel)) ggX8_greater_X8_ofTwo
theorem dX8_greater_0 : decode cX8_greater 0 = .ok (.aload_n 0, 1) := by decide +kernel
theorem dX8_greater_1 : decode cX8_greater 1 = .ok (.iconst 4, 1) := by decide +kernel
theorem dX8_greater_2 : decode cX8_greater 2 = .ok (.iload_n 1, 1) := by decide +kernel
theorem dX8_greater_3 : decode cX8_greater 3 = .ok (.iload_n 2, 1) := by decide +kernel
theorem dX8_greater_4 : decode cX8_greater 4 = .ok (.invokevirtual 173, 3) := by decide +kernel
theorem dX8_greater_7 : decode cX8_greater 7 = .ok (.ireturn, 1) := by decide +kernel
set_option maxRecDepth 20000 in
theorem ggX8_inverse_X8_ofOne : GoodIn wsX8_inverse wsX8_ofOne := goodIn_r _ [5, 6, 7, 8, 9, 4, 10, 11, 12, 13, 14, 15, 16, 17, 18, 19, 20, 21, 22, 23, 24, 25, 26, 27, 28, 29, 30, 31, 32, 33, 34, 35, 36, 37, 38, 39, 40, 41, 42, 43, 44, 45, 46, 47, 48, 49, 50, 51, 52, 53, 54, 55, 56, 57, 58, 59, 60, 61, 62, 63, 64, 65, 66, 67, 68, 69, 70, 71, 72, 73, 74, 75, 76, 77, 78, 79, 80, 81, 82, 83, 84, 85, 86, 87, 88, 89, 90, 91, 92, 93, 94, 95, 96, 97, 98, 99, 100, 101, 102, 103, 104, 105, 106, 107, 108, 109, 110, 111, 112, 113, 114, 115, 116, 117, 118, 119, 120, 121, 122, 123, 124, 125, 126, 127] (by decide +kernel) (by decide +kernel)
set_option maxRecDepth 20000 in
theorem gX8_inverse_X8_ofOne : GoodIn wsX8_inverse (wsV RX8 176 RX8 yX8_ofOne wsX8_ofOne) := goodIn_app (goodIn_of _ (by decide +kernel)) ggX8_inverse_X8_ofOne
theorem dX8_inverse_0 : decode cX8_inverse 0 = .ok (.aload_n 0, 1) := by decide +kernel
theorem dX8_inverse_1 : decode cX8_inverse 1 = .ok (.iconst 5, 1) := by decide +kernel
theorem dX8_inverse_2 : decode cX8_inverse 2 = .ok (.iload_n 1, 1) := by decide +kernel
theorem dX8_inverse_3 : decode cX8_inverse 3 = .ok (.invokevirtual 176, 3) := by decide +kernel
theorem dX8_inverse_6 : decode cX8_inverse 6 = .ok (.ireturn, 1) := by decide +kernel
set_option maxRecDepth 20000 in
theorem ggX8_root_X8_ofOne : GoodIn wsX8_root wsX8_ofOne := goodIn_r _ [5, 6, 7, 8, 9, 4, 10, 11, 12, 13, 14, 15, 16, 17, 18, 19, 20, 21, 22, 23, 24, 25, 26, 27, 28, 29, 30, 31, 32, 33, 34, 35, 36, 37, 38, 39, 40, 41, 42, 43, 44, 45, 46, 47, 48, 49, 50, 51, 52, 53, 54, 55, 56, 57, 58, 59, 60, 61, 62, 63, 64, 65, 66, 67, 68, 69, 70, 71, 72, 73, 74, 75, 76, 77, 78, 79, 80, 81, 82, 83, 84, 85, 86, 87, 88, 89, 90, 91, 92, 93, 94, 95, 96, 97, 98, 99, 100, 101, 102, 103, 104, 105, 106, 107, 108, 109, 110, 111, 112, 113, 114, 115, 116, 117, 118, 119, 120, 121, 122, 123, 124, 125, 126, 127] (by decide +kernel) (by decide +kernel)
set_option maxRecDepth 20000 in
theorem gX8_root_X8_ofOne : GoodIn wsX8_root (wsV RX8 176 RX8 yX8_ofOne wsX8_ofOne) := goodIn_app (goodIn_of _ (by decide +kernel)) ggX8_root_X8_ofOne
theorem dX8_root_0 : decode cX8_root 0 = .ok (.aload_n 0, 1) := by decide +kernel
theorem dX8_root_1 : decode cX8_root 1 = .ok (.bipush 6, 2) := by decide +kernel
theorem dX8_root_3 : decode cX8_root 3 = .ok (.iload_n 1, 1) := by decide +kernel
theorem dX8_root_4 : decode cX8_root 4 = .ok (.invokevirtual 176, 3) := by decide +kernel
theorem dX8_root_7 : decode cX8_root 7 = .ok (.ireturn, 1) := by decide +kernel
set_option maxRecDepth 20000 in
theorem ggX8_exp_X8_ofOne : GoodIn wsX8_exp wsX8_ofOne := goodIn_r _ [5, 6, 7, 8, 9, 4, 10, 11, 12, 13, 14, 15, 16, 17, 18, 19, 20, 21, 22, 23, 24, 25, 26, 27, 28, 29, 30, 31, 32, 33, 34, 35, 36, 37, 38, 39, 40, 41, 42, 43, 44, 45, 46, 47, 48, 49, 50, 51, 52, 53, 54, 55, 56, 57, 58, 59, 60, 61, 62, 63, 64, 65, 66, 67, 68, 69, 70, 71, 72, 73, 74, 75, 76, 77, 78, 79, 80, 81, 82, 83, 84, 85, 86, 87, 88, 89, 90, 91, 92, 93, 94, 95, 96, 97, 98, 99, 100, 101, 102, 103, 104, 105, 106, 107, 108, 109, 110, 111, 112, 113, 114, 115, 116, 117, 118, 119, 120, 121, 122, 123, 124, 125, 126, 127] (by decide +kernel) (by decide +kernel)
set_option maxRecDepth 20000 in
theorem gX8_exp_X8_ofOne : GoodIn wsX8_exp (wsV RX8 176 RX8 yX8_ofOne wsX8_ofOne) := goodIn_app (goodIn_of _ (by decide +kernel)) ggX8_exp_X8_ofOne
theorem dX8_exp_0 : decode cX8_exp 0 = .ok (.aload_n 0, 1) := by decide +kernel
theorem dX8_exp_1 : decode cX8_exp 1 = .ok (.bipush 7, 2) := by decide +kernel
theorem dX8_exp_3 : decode cX8_exp 3 = .ok (.iload_n 1, 1) := by decide +kernel
theorem dX8_exp_4 : decode cX8_exp 4 = .ok (.invokevirtual 176, 3) := by decide +kernel
theorem dX8_exp_7 : decode cX8_exp 7 = .ok (.ireturn, 1) := by decide +kernel
theorem dX8_plain_0 : decode cX8_plain 0 = .ok (.iload_n 0, 1) := by decide +kernel
theorem dX8_plain_1 : decode cX8_plain 1 = .ok (.iload_n 1, 1) := by decide +kernel
theorem dX8_plain_2 : decode cX8_plain 2 = .ok (.iload 4, 2) := by decide +kernel
theorem dX8_plain_4 : decode cX8_plain 4 = .ok (.imul, 1) := by decide +kernel
theorem dX8_plain_5 : decode cX8_plain 5 = .ok (.iadd, 1) := by decide +kernel
theorem dX8_plain_6 : decode cX8_plain 6 = .ok (.iload_n 2, 1) := by decide +kernel
theorem dX8_plain_7 : decode cX8_plain 7 = .ok (.iload 4, 2) := by decide +kernel
theorem dX8_plain_9 : decode cX8_plain 9 = .ok (.imul, 1) := by decide +kernel
theorem dX8_plain_10 : decode cX8_plain 10 = .ok (.iload 4, 2) := by decide +kernel
theorem dX8_plain_12 : decode cX8_plain 12 = .ok (.imul, 1) := by decide +kernel
theorem dX8_plain_13 : decode cX8_plain 13 = .ok (.iadd, 1) := by decide +kernel
theorem dX8_plain_14 : decode cX8_plain 14 = .ok (.iload_n 3, 1) := by decide +kernel
theorem dX8_plain_15 : decode cX8_plain 15 = .ok (.iload 4, 2) := by decide +kernel
theorem dX8_plain_17 : decode cX8_plain 17 = .ok (.imul, 1) := by decide +kernel
theorem dX8_plain_18 : decode cX8_plain 18 = .ok (.iload 4, 2) := by decide +kernel
theorem dX8_plain_20 : decode cX8_plain 20 = .ok (.imul, 1) := by decide +kernel
theorem dX8_plain_21 : decode cX8_plain 21 = .ok (.iload 4, 2) := by decide +kernel
theorem dX8_plain_23 : decode cX8_plain 23 = .ok (.imul, 1) := by decide +kernel
theorem dX8_plain_24 : decode cX8_plain 24 = .ok (.iadd, 1) := by decide +kernel
theorem dX8_plain_25 : decode cX8_plain 25 = .ok (.ireturn, 1) := by decide +kernel
set_option maxRecDepth 20000 in
theorem ggX8_zero_X8_in : GoodIn wsX8_zero wsX8_in := goodIn_r _ [11] (by decide +kernel) (by decide +kernel)
set_option maxRecDepth 20000 in
theorem gX8_zero_X8_in : GoodIn wsX8_zero (va_wsS RX8 88 yX8_in wsX8_in) := goodIn_app (goodIn_of _ (by decide +kernel)) ggX8_zero_X8_in
set_option maxRecDepth 20000 in
theorem ggX8_zero_X8_plain : GoodIn wsX8_zero wsX8_plain := goodIn_r _ [14] (by decide +kernel) (by decide +kernel)
set_option maxRecDepth 20000 in
theorem gX8_zero_X8_plain : GoodIn wsX8_zero (va_wsS RX8 180 yX8_plain wsX8_plain) := goodIn_app (goodIn_of _ (by decide +kernel)) ggX8_zero_X8_plain
set_option maxRecDepth 20000 in
theorem ggX8_zero_X8_holds : GoodIn wsX8_zero wsX8_holds := goodIn_r _ [18, 19, 95, 96, 97, 98, 99, 100, 101, 102, 103, 104, 105, 106, 107, 108, 109, 110, 111, 112, 113, 114, 115, 116, 117, 118, 119, 120, 121, 122] (by decide +kernel) (by decide +kernel)
set_option maxRecDepth 20000 in
theorem gX8_zero_X8_holds : GoodIn wsX8_zero (wsV RX8 162 RX8 yX8_holds wsX8_holds) := goodIn_app (goodIn_of _ (by decide +kernel)) ggX8_zero_X8_holds
set_option maxRecDepth 20000 in
theorem ggX8_zero_X8_adds : GoodIn wsX8_zero wsX8_adds := goodIn_r _ [23, 24, 1, 25, 26, 27, 28, 29, 10, 30, 31, 32, 33, 34, 35, 36, 37, 38, 39, 40, 41, 42, 43, 44, 45, 46, 47, 48, 49, 50, 51, 52, 53, 54, 55, 56, 57, 58, 59, 60, 61, 62, 63, 64, 65, 66, 67, 68, 69, 70, 71, 72, 73, 74, 75, 76, 77, 78, 79, 80, 81, 82, 83, 84, 85, 86, 6, 7, 87, 88, 89, 90, 5, 4, 3, 2, 91, 92, 93, 94, 95, 96, 97, 98, 99, 100, 101, 102, 103, 104, 105, 106, 107, 108, 109, 110, 111, 112, 113, 114, 115, 116, 117, 118, 119, 120, 121, 122] (by decide +kernel) (by decide +kernel)
set_option maxRecDepth 20000 in
theorem gX8_zero_X8_adds : GoodIn wsX8_zero (wsV RX8 166 RX8 yX8_adds wsX8_adds) := goodIn_app (goodIn_of _ (by decide +kernel)) ggX8_zero_X8_adds
theorem dX8_zero_0 : decode cX8_zero 0 = .ok (.iload_n 1, 1) := by decide +kernel
theorem dX8_zero_1 : decode cX8_zero 1 = .ok (.bipush (-9), 2) := by decide +kernel
theorem dX8_zero_3 : decode cX8_zero 3 = .ok (.bipush 9, 2) := by decide +kernel
theorem dX8_zero_5 : decode cX8_zero 5 = .ok (.invokestatic 88, 3) := by decide +kernel
theorem dX8_zero_8 : decode cX8_zero 8 = .ok (.ifCond .eq 62, 3) := by decide +kernel
theorem dX8_zero_11 : decode cX8_zero 11 = .ok (.iload_n 2, 1) := by decide +kernel
theorem dX8_zero_12 : decode cX8_zero 12 = .ok (.bipush (-9), 2) := by decide +kernel
theorem dX8_zero_14 : decode cX8_zero 14 = .ok (.bipush 9, 2) := by decide +kernel
theorem dX8_zero_16 : decode cX8_zero 16 = .ok (.invokestatic 88, 3) := by decide +kernel
theorem dX8_zero_19 : decode cX8_zero 19 = .ok (.ifCond .eq 51, 3) := by decide +kernel
theorem dX8_zero_22 : decode cX8_zero 22 = .ok (.iload_n 3, 1) := by decide +kernel
theorem dX8_zero_23 : decode cX8_zero 23 = .ok (.bipush (-9), 2) := by decide +kernel
theorem dX8_zero_25 : decode cX8_zero 25 = .ok (.bipush 9, 2) := by decide +kernel
theorem dX8_zero_27 : decode cX8_zero 27 = .ok (.invokestatic 88, 3) := by decide +kernel
theorem dX8_zero_30 : decode cX8_zero 30 = .ok (.ifCond .eq 40, 3) := by decide +kernel
theorem dX8_zero_33 : decode cX8_zero 33 = .ok (.iload 4, 2) := by decide +kernel
theorem dX8_zero_35 : decode cX8_zero 35 = .ok (.bipush (-9), 2) := by decide +kernel
theorem dX8_zero_37 : decode cX8_zero 37 = .ok (.bipush 9, 2) := by decide +kernel
theorem dX8_zero_39 : decode cX8_zero 39 = .ok (.invokestatic 88, 3) := by decide +kernel
theorem dX8_zero_42 : decode cX8_zero 42 = .ok (.ifCond .eq 28, 3) := by decide +kernel
theorem dX8_zero_45 : decode cX8_zero 45 = .ok (.iload 5, 2) := by decide +kernel
theorem dX8_zero_47 : decode cX8_zero 47 = .ok (.bipush (-4), 2) := by decide +kernel
theorem dX8_zero_49 : decode cX8_zero 49 = .ok (.iconst 3, 1) := by decide +kernel
theorem dX8_zero_50 : decode cX8_zero 50 = .ok (.invokestatic 88, 3) := by decide +kernel
theorem dX8_zero_53 : decode cX8_zero 53 = .ok (.ifCond .eq 17, 3) := by decide +kernel
theorem dX8_zero_56 : decode cX8_zero 56 = .ok (.iload 6, 2) := by decide +kernel
theorem dX8_zero_58 : decode cX8_zero 58 = .ok (.iconst 0, 1) := by decide +kernel
theorem dX8_zero_59 : decode cX8_zero 59 = .ok (.iconst 2, 1) := by decide +kernel
theorem dX8_zero_60 : decode cX8_zero 60 = .ok (.invokestatic 88, 3) := by decide +kernel
theorem dX8_zero_63 : decode cX8_zero 63 = .ok (.ifCond .eq 7, 3) := by decide +kernel
theorem dX8_zero_66 : decode cX8_zero 66 = .ok (.iconst 1, 1) := by decide +kernel
theorem dX8_zero_67 : decode cX8_zero 67 = .ok (.goto 4, 3) := by decide +kernel
theorem dX8_zero_70 : decode cX8_zero 70 = .ok (.iconst 0, 1) := by decide +kernel
theorem dX8_zero_71 : decode cX8_zero 71 = .ok (.istore 7, 2) := by decide +kernel
theorem dX8_zero_73 : decode cX8_zero 73 = .ok (.iload 7, 2) := by decide +kernel
theorem dX8_zero_75 : decode cX8_zero 75 = .ok (.ifCond .eq 13, 3) := by decide +kernel
theorem dX8_zero_78 : decode cX8_zero 78 = .ok (.iload 5, 2) := by decide +kernel
theorem dX8_zero_80 : decode cX8_zero 80 = .ok (.iconst 1, 1) := by decide +kernel
theorem dX8_zero_81 : decode cX8_zero 81 = .ok (.iload 6, 2) := by decide +kernel
theorem dX8_zero_83 : decode cX8_zero 83 = .ok (.ishl, 1) := by decide +kernel
theorem dX8_zero_84 : decode cX8_zero 84 = .ok (.iadd, 1) := by decide +kernel
theorem dX8_zero_85 : decode cX8_zero 85 = .ok (.goto 4, 3) := by decide +kernel
theorem dX8_zero_88 : decode cX8_zero 88 = .ok (.iconst 0, 1) := by decide +kernel
theorem dX8_zero_89 : decode cX8_zero 89 = .ok (.istore 8, 2) := by decide +kernel
theorem dX8_zero_91 : decode cX8_zero 91 = .ok (.iload 7, 2) := by decide +kernel
theorem dX8_zero_93 : decode cX8_zero 93 = .ok (.ifCond .eq 16, 3) := by decide +kernel
theorem dX8_zero_96 : decode cX8_zero 96 = .ok (.iload_n 1, 1) := by decide +kernel
theorem dX8_zero_97 : decode cX8_zero 97 = .ok (.iload_n 2, 1) := by decide +kernel
theorem dX8_zero_98 : decode cX8_zero 98 = .ok (.iload_n 3, 1) := by decide +kernel
theorem dX8_zero_99 : decode cX8_zero 99 = .ok (.iload 4, 2) := by decide +kernel
theorem dX8_zero_101 : decode cX8_zero 101 = .ok (.iload 5, 2) := by decide +kernel
theorem dX8_zero_103 : decode cX8_zero 103 = .ok (.invokestatic 180, 3) := by decide +kernel
theorem dX8_zero_106 : decode cX8_zero 106 = .ok (.goto 4, 3) := by decide +kernel
theorem dX8_zero_109 : decode cX8_zero 109 = .ok (.iconst 0, 1) := by decide +kernel
theorem dX8_zero_110 : decode cX8_zero 110 = .ok (.istore 9, 2) := by decide +kernel
theorem dX8_zero_112 : decode cX8_zero 112 = .ok (.iload 7, 2) := by decide +kernel
theorem dX8_zero_114 : decode cX8_zero 114 = .ok (.ifCond .eq 16, 3) := by decide +kernel
theorem dX8_zero_117 : decode cX8_zero 117 = .ok (.iload_n 1, 1) := by decide +kernel
theorem dX8_zero_118 : decode cX8_zero 118 = .ok (.iload_n 2, 1) := by decide +kernel
theorem dX8_zero_119 : decode cX8_zero 119 = .ok (.iload_n 3, 1) := by decide +kernel
theorem dX8_zero_120 : decode cX8_zero 120 = .ok (.iload 4, 2) := by decide +kernel
theorem dX8_zero_122 : decode cX8_zero 122 = .ok (.iload 8, 2) := by decide +kernel
theorem dX8_zero_124 : decode cX8_zero 124 = .ok (.invokestatic 180, 3) := by decide +kernel
theorem dX8_zero_127 : decode cX8_zero 127 = .ok (.goto 4, 3) := by decide +kernel
theorem dX8_zero_130 : decode cX8_zero 130 = .ok (.iconst 0, 1) := by decide +kernel
theorem dX8_zero_131 : decode cX8_zero 131 = .ok (.istore 10, 2) := by decide +kernel
theorem dX8_zero_133 : decode cX8_zero 133 = .ok (.iload 9, 2) := by decide +kernel
theorem dX8_zero_135 : decode cX8_zero 135 = .ok (.ifCond .ge 8, 3) := by decide +kernel
theorem dX8_zero_138 : decode cX8_zero 138 = .ok (.iload 10, 2) := by decide +kernel
theorem dX8_zero_140 : decode cX8_zero 140 = .ok (.ifCond .gt 13, 3) := by decide +kernel
theorem dX8_zero_143 : decode cX8_zero 143 = .ok (.iload 9, 2) := by decide +kernel
theorem dX8_zero_145 : decode cX8_zero 145 = .ok (.ifCond .le 12, 3) := by decide +kernel
theorem dX8_zero_148 : decode cX8_zero 148 = .ok (.iload 10, 2) := by decide +kernel
theorem dX8_zero_150 : decode cX8_zero 150 = .ok (.ifCond .ge 7, 3) := by decide +kernel
theorem dX8_zero_153 : decode cX8_zero 153 = .ok (.iconst 1, 1) := by decide +kernel
theorem dX8_zero_154 : decode cX8_zero 154 = .ok (.goto 4, 3) := by decide +kernel
theorem dX8_zero_157 : decode cX8_zero 157 = .ok (.iconst 0, 1) := by decide +kernel
theorem dX8_zero_158 : decode cX8_zero 158 = .ok (.istore 11, 2) := by decide +kernel
theorem dX8_zero_160 : decode cX8_zero 160 = .ok (.aload_n 0, 1) := by decide +kernel
theorem dX8_zero_161 : decode cX8_zero 161 = .ok (.iload 7, 2) := by decide +kernel
theorem dX8_zero_163 : decode cX8_zero 163 = .ok (.ifCond .ne 7, 3) := by decide +kernel
theorem dX8_zero_166 : decode cX8_zero 166 = .ok (.iconst 1, 1) := by decide +kernel
theorem dX8_zero_167 : decode cX8_zero 167 = .ok (.goto 22, 3) := by decide +kernel
theorem dX8_zero_170 : decode cX8_zero 170 = .ok (.iload 11, 2) := by decide +kernel
theorem dX8_zero_172 : decode cX8_zero 172 = .ok (.ifCond .eq 12, 3) := by decide +kernel
theorem dX8_zero_175 : decode cX8_zero 175 = .ok (.aload_n 0, 1) := by decide +kernel
theorem dX8_zero_176 : decode cX8_zero 176 = .ok (.getfield 85, 3) := by decide +kernel
theorem dX8_zero_179 : decode cX8_zero 179 = .ok (.bipush 40, 2) := by decide +kernel
theorem dX8_zero_181 : decode cX8_zero 181 = .ok (.if_icmp .ne 7, 3) := by decide +kernel
theorem dX8_zero_184 : decode cX8_zero 184 = .ok (.iconst 2, 1) := by decide +kernel
theorem dX8_zero_185 : decode cX8_zero 185 = .ok (.goto 4, 3) := by decide +kernel
theorem dX8_zero_188 : decode cX8_zero 188 = .ok (.iconst 0, 1) := by decide +kernel
theorem dX8_zero_189 : decode cX8_zero 189 = .ok (.invokevirtual 162, 3) := by decide +kernel
theorem dX8_zero_192 : decode cX8_zero 192 = .ok (.ifCond .ne 5, 3) := by decide +kernel
theorem dX8_zero_195 : decode cX8_zero 195 = .ok (.iconst 0, 1) := by decide +kernel
theorem dX8_zero_196 : decode cX8_zero 196 = .ok (.ireturn, 1) := by decide +kernel
theorem dX8_zero_197 : decode cX8_zero 197 = .ok (.aload_n 0, 1) := by decide +kernel
theorem dX8_zero_198 : decode cX8_zero 198 = .ok (.getfield 25, 3) := by decide +kernel
theorem dX8_zero_201 : decode cX8_zero 201 = .ok (.aload_n 0, 1) := by decide +kernel
theorem dX8_zero_202 : decode cX8_zero 202 = .ok (.getfield 85, 3) := by decide +kernel
theorem dX8_zero_205 : decode cX8_zero 205 = .ok (.iload_n 1, 1) := by decide +kernel
theorem dX8_zero_206 : decode cX8_zero 206 = .ok (.iastore, 1) := by decide +kernel
theorem dX8_zero_207 : decode cX8_zero 207 = .ok (.aload_n 0, 1) := by decide +kernel
theorem dX8_zero_208 : decode cX8_zero 208 = .ok (.getfield 28, 3) := by decide +kernel
theorem dX8_zero_211 : decode cX8_zero 211 = .ok (.aload_n 0, 1) := by decide +kernel
theorem dX8_zero_212 : decode cX8_zero 212 = .ok (.getfield 85, 3) := by decide +kernel
theorem dX8_zero_215 : decode cX8_zero 215 = .ok (.iload_n 2, 1) := by decide +kernel
theorem dX8_zero_216 : decode cX8_zero 216 = .ok (.iastore, 1) := by decide +kernel
theorem dX8_zero_217 : decode cX8_zero 217 = .ok (.aload_n 0, 1) := by decide +kernel
theorem dX8_zero_218 : decode cX8_zero 218 = .ok (.getfield 31, 3) := by decide +kernel
theorem dX8_zero_221 : decode cX8_zero 221 = .ok (.aload_n 0, 1) := by decide +kernel
theorem dX8_zero_222 : decode cX8_zero 222 = .ok (.getfield 85, 3) := by decide +kernel
theorem dX8_zero_225 : decode cX8_zero 225 = .ok (.iload_n 3, 1) := by decide +kernel
theorem dX8_zero_226 : decode cX8_zero 226 = .ok (.iastore, 1) := by decide +kernel
theorem dX8_zero_227 : decode cX8_zero 227 = .ok (.aload_n 0, 1) := by decide +kernel
theorem dX8_zero_228 : decode cX8_zero 228 = .ok (.getfield 34, 3) := by decide +kernel
theorem dX8_zero_231 : decode cX8_zero 231 = .ok (.aload_n 0, 1) := by decide +kernel
theorem dX8_zero_232 : decode cX8_zero 232 = .ok (.getfield 85, 3) := by decide +kernel
theorem dX8_zero_235 : decode cX8_zero 235 = .ok (.iload 4, 2) := by decide +kernel
theorem dX8_zero_237 : decode cX8_zero 237 = .ok (.iastore, 1) := by decide +kernel
theorem dX8_zero_238 : decode cX8_zero 238 = .ok (.aload_n 0, 1) := by decide +kernel
theorem dX8_zero_239 : decode cX8_zero 239 = .ok (.getfield 37, 3) := by decide +kernel
theorem dX8_zero_242 : decode cX8_zero 242 = .ok (.aload_n 0, 1) := by decide +kernel
theorem dX8_zero_243 : decode cX8_zero 243 = .ok (.getfield 85, 3) := by decide +kernel
theorem dX8_zero_246 : decode cX8_zero 246 = .ok (.iload 5, 2) := by decide +kernel
theorem dX8_zero_248 : decode cX8_zero 248 = .ok (.iastore, 1) := by decide +kernel
theorem dX8_zero_249 : decode cX8_zero 249 = .ok (.aload_n 0, 1) := by decide +kernel
theorem dX8_zero_250 : decode cX8_zero 250 = .ok (.getfield 40, 3) := by decide +kernel
theorem dX8_zero_253 : decode cX8_zero 253 = .ok (.aload_n 0, 1) := by decide +kernel
theorem dX8_zero_254 : decode cX8_zero 254 = .ok (.getfield 85, 3) := by decide +kernel
theorem dX8_zero_257 : decode cX8_zero 257 = .ok (.iload 8, 2) := by decide +kernel
theorem dX8_zero_259 : decode cX8_zero 259 = .ok (.iastore, 1) := by decide +kernel
theorem dX8_zero_260 : decode cX8_zero 260 = .ok (.aload_n 0, 1) := by decide +kernel
theorem dX8_zero_261 : decode cX8_zero 261 = .ok (.bipush 8, 2) := by decide +kernel
theorem dX8_zero_263 : decode cX8_zero 263 = .ok (.iconst (-1), 1) := by decide +kernel
theorem dX8_zero_264 : decode cX8_zero 264 = .ok (.iconst (-1), 1) := by decide +kernel
theorem dX8_zero_265 : decode cX8_zero 265 = .ok (.invokevirtual 166, 3) := by decide +kernel
theorem dX8_zero_268 : decode cX8_zero 268 = .ok (.ireturn, 1) := by decide +kernel
set_option maxRecDepth 20000 in
theorem ggX8_canAsk_X8_isProgram : GoodIn wsX8_canAsk wsX8_isProgram := goodIn_r _ [7, 8, 9, 10, 6, 11, 20, 21, 22, 23, 24, 25, 26, 27, 28, 29, 30, 31, 32, 33, 34, 35, 36, 37, 38, 39, 40, 41, 42, 43, 44, 45, 46, 47] (by decide +kernel) (by decide +kernel)
set_option maxRecDepth 20000 in
theorem gX8_canAsk_X8_isProgram : GoodIn wsX8_canAsk (wsV RX8 170 RX8 yX8_isProgram wsX8_isProgram) := goodIn_app (goodIn_of _ (by decide +kernel)) ggX8_canAsk_X8_isProgram
set_option maxRecDepth 20000 in
theorem ggX8_canAsk_X8_isPlace : GoodIn wsX8_canAsk wsX8_isPlace := goodIn_r _ [14, 9, 10, 6, 11] (by decide +kernel) (by decide +kernel)
set_option maxRecDepth 20000 in
theorem gX8_canAsk_X8_isPlace : GoodIn wsX8_canAsk (va_wsS RX8 184 yX8_isPlace wsX8_isPlace) := goodIn_app (goodIn_of _ (by decide +kernel)) ggX8_canAsk_X8_isPlace
set_option maxRecDepth 20000 in
theorem ggX8_canAsk_X8_holds : GoodIn wsX8_canAsk wsX8_holds := goodIn_r _ [18, 19, 20, 21, 22, 23, 24, 25, 26, 27, 28, 29, 30, 31, 32, 33, 34, 35, 36, 37, 38, 39, 40, 41, 42, 43, 44, 45, 46, 47] (by decide +kernel) (by decide +kernel)
set_option maxRecDepth 20000 in
theorem gX8_canAsk_X8_holds : GoodIn wsX8_canAsk (wsV RX8 162 RX8 yX8_holds wsX8_holds) := goodIn_app (goodIn_of _ (by decide +kernel)) ggX8_canAsk_X8_holds
theorem dX8_canAsk_0 : decode cX8_canAsk 0 = .ok (.aload_n 0, 1) := by decide +kernel
theorem dX8_canAsk_1 : decode cX8_canAsk 1 = .ok (.iload_n 1, 1) := by decide +kernel
theorem dX8_canAsk_2 : decode cX8_canAsk 2 = .ok (.invokevirtual 170, 3) := by decide +kernel
theorem dX8_canAsk_5 : decode cX8_canAsk 5 = .ok (.istore 4, 2) := by decide +kernel
theorem dX8_canAsk_7 : decode cX8_canAsk 7 = .ok (.iload 4, 2) := by decide +kernel
theorem dX8_canAsk_9 : decode cX8_canAsk 9 = .ok (.ifCond .eq 49, 3) := by decide +kernel
theorem dX8_canAsk_12 : decode cX8_canAsk 12 = .ok (.iload_n 2, 1) := by decide +kernel
theorem dX8_canAsk_13 : decode cX8_canAsk 13 = .ok (.invokestatic 184, 3) := by decide +kernel
theorem dX8_canAsk_16 : decode cX8_canAsk 16 = .ok (.ifCond .eq 42, 3) := by decide +kernel
theorem dX8_canAsk_19 : decode cX8_canAsk 19 = .ok (.iload_n 3, 1) := by decide +kernel
theorem dX8_canAsk_20 : decode cX8_canAsk 20 = .ok (.ifCond .eq 20, 3) := by decide +kernel
theorem dX8_canAsk_23 : decode cX8_canAsk 23 = .ok (.aload_n 0, 1) := by decide +kernel
theorem dX8_canAsk_24 : decode cX8_canAsk 24 = .ok (.getfield 43, 3) := by decide +kernel
theorem dX8_canAsk_27 : decode cX8_canAsk 27 = .ok (.bipush 25, 2) := by decide +kernel
theorem dX8_canAsk_29 : decode cX8_canAsk 29 = .ok (.iload_n 1, 1) := by decide +kernel
theorem dX8_canAsk_30 : decode cX8_canAsk 30 = .ok (.imul, 1) := by decide +kernel
theorem dX8_canAsk_31 : decode cX8_canAsk 31 = .ok (.iload_n 2, 1) := by decide +kernel
theorem dX8_canAsk_32 : decode cX8_canAsk 32 = .ok (.iadd, 1) := by decide +kernel
theorem dX8_canAsk_33 : decode cX8_canAsk 33 = .ok (.baload, 1) := by decide +kernel
theorem dX8_canAsk_34 : decode cX8_canAsk 34 = .ok (.ifCond .eq 24, 3) := by decide +kernel
theorem dX8_canAsk_37 : decode cX8_canAsk 37 = .ok (.goto 17, 3) := by decide +kernel
theorem dX8_canAsk_40 : decode cX8_canAsk 40 = .ok (.aload_n 0, 1) := by decide +kernel
theorem dX8_canAsk_41 : decode cX8_canAsk 41 = .ok (.getfield 54, 3) := by decide +kernel
theorem dX8_canAsk_44 : decode cX8_canAsk 44 = .ok (.bipush 25, 2) := by decide +kernel
theorem dX8_canAsk_46 : decode cX8_canAsk 46 = .ok (.iload_n 1, 1) := by decide +kernel
theorem dX8_canAsk_47 : decode cX8_canAsk 47 = .ok (.imul, 1) := by decide +kernel
theorem dX8_canAsk_48 : decode cX8_canAsk 48 = .ok (.iload_n 2, 1) := by decide +kernel
theorem dX8_canAsk_49 : decode cX8_canAsk 49 = .ok (.iadd, 1) := by decide +kernel
theorem dX8_canAsk_50 : decode cX8_canAsk 50 = .ok (.baload, 1) := by decide +kernel
theorem dX8_canAsk_51 : decode cX8_canAsk 51 = .ok (.ifCond .eq 7, 3) := by decide +kernel
theorem dX8_canAsk_54 : decode cX8_canAsk 54 = .ok (.iconst 1, 1) := by decide +kernel
theorem dX8_canAsk_55 : decode cX8_canAsk 55 = .ok (.goto 4, 3) := by decide +kernel
theorem dX8_canAsk_58 : decode cX8_canAsk 58 = .ok (.iconst 0, 1) := by decide +kernel
theorem dX8_canAsk_59 : decode cX8_canAsk 59 = .ok (.istore 5, 2) := by decide +kernel
theorem dX8_canAsk_61 : decode cX8_canAsk 61 = .ok (.aload_n 0, 1) := by decide +kernel
theorem dX8_canAsk_62 : decode cX8_canAsk 62 = .ok (.iload 4, 2) := by decide +kernel
theorem dX8_canAsk_64 : decode cX8_canAsk 64 = .ok (.ifCond .ne 7, 3) := by decide +kernel
theorem dX8_canAsk_67 : decode cX8_canAsk 67 = .ok (.iconst 1, 1) := by decide +kernel
theorem dX8_canAsk_68 : decode cX8_canAsk 68 = .ok (.goto 24, 3) := by decide +kernel
theorem dX8_canAsk_71 : decode cX8_canAsk 71 = .ok (.iload_n 2, 1) := by decide +kernel
theorem dX8_canAsk_72 : decode cX8_canAsk 72 = .ok (.invokestatic 184, 3) := by decide +kernel
theorem dX8_canAsk_75 : decode cX8_canAsk 75 = .ok (.ifCond .ne 7, 3) := by decide +kernel
theorem dX8_canAsk_78 : decode cX8_canAsk 78 = .ok (.iconst 2, 1) := by decide +kernel
theorem dX8_canAsk_79 : decode cX8_canAsk 79 = .ok (.goto 13, 3) := by decide +kernel
theorem dX8_canAsk_82 : decode cX8_canAsk 82 = .ok (.iload 5, 2) := by decide +kernel
theorem dX8_canAsk_84 : decode cX8_canAsk 84 = .ok (.ifCond .eq 7, 3) := by decide +kernel
theorem dX8_canAsk_87 : decode cX8_canAsk 87 = .ok (.iconst 0, 1) := by decide +kernel
theorem dX8_canAsk_88 : decode cX8_canAsk 88 = .ok (.goto 4, 3) := by decide +kernel
theorem dX8_canAsk_91 : decode cX8_canAsk 91 = .ok (.iconst 3, 1) := by decide +kernel
theorem dX8_canAsk_92 : decode cX8_canAsk 92 = .ok (.invokevirtual 162, 3) := by decide +kernel
theorem dX8_canAsk_95 : decode cX8_canAsk 95 = .ok (.ireturn, 1) := by decide +kernel
set_option maxRecDepth 20000 in
theorem ggX8_raw_X8_canAsk : GoodIn wsX8_raw wsX8_canAsk := goodIn_r _ [7, 8, 9, 10, 11, 12, 6, 13, 14, 15, 16, 17, 18, 19, 20, 21, 22, 23, 24, 25, 26, 27, 28, 29, 30, 31, 32, 33, 34, 35, 36, 37, 38, 39, 40, 41, 42, 43, 44, 45, 46, 47, 48, 49, 50, 51, 52, 53] (by decide +kernel) (by decide +kernel)
set_option maxRecDepth 20000 in
theorem gX8_raw_X8_canAsk : GoodIn wsX8_raw (wsV RX8 187 RX8 yX8_canAsk wsX8_canAsk) := goodIn_app (goodIn_of _ (by decide +kernel)) ggX8_raw_X8_canAsk
theorem dX8_raw_0 : decode cX8_raw 0 = .ok (.aload_n 0, 1) := by decide +kernel
theorem dX8_raw_1 : decode cX8_raw 1 = .ok (.iload_n 1, 1) := by decide +kernel
theorem dX8_raw_2 : decode cX8_raw 2 = .ok (.iload_n 2, 1) := by decide +kernel
theorem dX8_raw_3 : decode cX8_raw 3 = .ok (.iconst 1, 1) := by decide +kernel
theorem dX8_raw_4 : decode cX8_raw 4 = .ok (.invokevirtual 187, 3) := by decide +kernel
theorem dX8_raw_7 : decode cX8_raw 7 = .ok (.ifCond .ne 5, 3) := by decide +kernel
theorem dX8_raw_10 : decode cX8_raw 10 = .ok (.lconst 0, 1) := by decide +kernel
theorem dX8_raw_11 : decode cX8_raw 11 = .ok (.lreturn, 1) := by decide +kernel
theorem dX8_raw_12 : decode cX8_raw 12 = .ok (.iload_n 3, 1) := by decide +kernel
theorem dX8_raw_13 : decode cX8_raw 13 = .ok (.ifCond .eq 17, 3) := by decide +kernel
theorem dX8_raw_16 : decode cX8_raw 16 = .ok (.aload_n 0, 1) := by decide +kernel
theorem dX8_raw_17 : decode cX8_raw 17 = .ok (.getfield 51, 3) := by decide +kernel
theorem dX8_raw_20 : decode cX8_raw 20 = .ok (.bipush 25, 2) := by decide +kernel
theorem dX8_raw_22 : decode cX8_raw 22 = .ok (.iload_n 1, 1) := by decide +kernel
theorem dX8_raw_23 : decode cX8_raw 23 = .ok (.imul, 1) := by decide +kernel
theorem dX8_raw_24 : decode cX8_raw 24 = .ok (.iload_n 2, 1) := by decide +kernel
theorem dX8_raw_25 : decode cX8_raw 25 = .ok (.iadd, 1) := by decide +kernel
theorem dX8_raw_26 : decode cX8_raw 26 = .ok (.laload, 1) := by decide +kernel
theorem dX8_raw_27 : decode cX8_raw 27 = .ok (.goto 14, 3) := by decide +kernel
theorem dX8_raw_30 : decode cX8_raw 30 = .ok (.aload_n 0, 1) := by decide +kernel
theorem dX8_raw_31 : decode cX8_raw 31 = .ok (.getfield 47, 3) := by decide +kernel
theorem dX8_raw_34 : decode cX8_raw 34 = .ok (.bipush 25, 2) := by decide +kernel
theorem dX8_raw_36 : decode cX8_raw 36 = .ok (.iload_n 1, 1) := by decide +kernel
theorem dX8_raw_37 : decode cX8_raw 37 = .ok (.imul, 1) := by decide +kernel
theorem dX8_raw_38 : decode cX8_raw 38 = .ok (.iload_n 2, 1) := by decide +kernel
theorem dX8_raw_39 : decode cX8_raw 39 = .ok (.iadd, 1) := by decide +kernel
theorem dX8_raw_40 : decode cX8_raw 40 = .ok (.laload, 1) := by decide +kernel
theorem dX8_raw_41 : decode cX8_raw 41 = .ok (.lreturn, 1) := by decide +kernel
set_option maxRecDepth 20000 in
theorem ggX8_told_X8_canAsk : GoodIn wsX8_told wsX8_canAsk := goodIn_r _ [7, 8, 9, 10, 11, 12, 6, 13, 14, 15, 16, 17, 18, 19, 20, 21, 22, 23, 24, 25, 26, 27, 28, 29, 30, 31, 32, 33, 34, 35, 36, 37, 38, 39, 40, 41, 42, 43, 44, 45, 46, 47, 48, 49, 50, 51, 52, 53] (by decide +kernel) (by decide +kernel)
set_option maxRecDepth 20000 in
theorem gX8_told_X8_canAsk : GoodIn wsX8_told (wsV RX8 187 RX8 yX8_canAsk wsX8_canAsk) := goodIn_app (goodIn_of _ (by decide +kernel)) ggX8_told_X8_canAsk
theorem dX8_told_0 : decode cX8_told 0 = .ok (.aload_n 0, 1) := by decide +kernel
theorem dX8_told_1 : decode cX8_told 1 = .ok (.iload_n 1, 1) := by decide +kernel
theorem dX8_told_2 : decode cX8_told 2 = .ok (.iload_n 2, 1) := by decide +kernel
theorem dX8_told_3 : decode cX8_told 3 = .ok (.iconst 0, 1) := by decide +kernel
theorem dX8_told_4 : decode cX8_told 4 = .ok (.invokevirtual 187, 3) := by decide +kernel
theorem dX8_told_7 : decode cX8_told 7 = .ok (.ifCond .ne 5, 3) := by decide +kernel
theorem dX8_told_10 : decode cX8_told 10 = .ok (.lconst 0, 1) := by decide +kernel
theorem dX8_told_11 : decode cX8_told 11 = .ok (.lreturn, 1) := by decide +kernel
theorem dX8_told_12 : decode cX8_told 12 = .ok (.iload_n 3, 1) := by decide +kernel
theorem dX8_told_13 : decode cX8_told 13 = .ok (.ifCond .eq 17, 3) := by decide +kernel
theorem dX8_told_16 : decode cX8_told 16 = .ok (.aload_n 0, 1) := by decide +kernel
theorem dX8_told_17 : decode cX8_told 17 = .ok (.getfield 60, 3) := by decide +kernel
theorem dX8_told_20 : decode cX8_told 20 = .ok (.bipush 25, 2) := by decide +kernel
theorem dX8_told_22 : decode cX8_told 22 = .ok (.iload_n 1, 1) := by decide +kernel
theorem dX8_told_23 : decode cX8_told 23 = .ok (.imul, 1) := by decide +kernel
theorem dX8_told_24 : decode cX8_told 24 = .ok (.iload_n 2, 1) := by decide +kernel
theorem dX8_told_25 : decode cX8_told 25 = .ok (.iadd, 1) := by decide +kernel
theorem dX8_told_26 : decode cX8_told 26 = .ok (.laload, 1) := by decide +kernel
theorem dX8_told_27 : decode cX8_told 27 = .ok (.goto 14, 3) := by decide +kernel
theorem dX8_told_30 : decode cX8_told 30 = .ok (.aload_n 0, 1) := by decide +kernel
theorem dX8_told_31 : decode cX8_told 31 = .ok (.getfield 57, 3) := by decide +kernel
theorem dX8_told_34 : decode cX8_told 34 = .ok (.bipush 25, 2) := by decide +kernel
theorem dX8_told_36 : decode cX8_told 36 = .ok (.iload_n 1, 1) := by decide +kernel
theorem dX8_told_37 : decode cX8_told 37 = .ok (.imul, 1) := by decide +kernel
theorem dX8_told_38 : decode cX8_told 38 = .ok (.iload_n 2, 1) := by decide +kernel
theorem dX8_told_39 : decode cX8_told 39 = .ok (.iadd, 1) := by decide +kernel
theorem dX8_told_40 : decode cX8_told 40 = .ok (.laload, 1) := by decide +kernel
theorem dX8_told_41 : decode cX8_told 41 = .ok (.lreturn, 1) := by decide +kernel
set_option maxRecDepth 20000 in
theorem ggX8_replaces_X8_makes : GoodIn wsX8_replaces wsX8_makes := goodIn_r _ [17, 18, 19, 20, 21, 5, 8, 10, 22, 23, 16, 24, 25, 26, 27, 28, 29, 30, 31, 32, 33, 34, 35, 36, 37, 38, 39, 40, 41, 42, 43, 44, 45, 46, 47, 48, 49, 50, 51, 52, 53, 54, 55, 56, 57, 58, 59, 60, 61, 62, 63, 64, 65, 66, 67, 68, 69, 70, 71, 72, 73, 74, 75, 76, 77, 78, 79, 80, 81, 82, 83, 84, 85, 86, 87, 88, 89, 90, 91, 92, 93, 94, 95, 96, 97, 98, 99, 100, 101, 102, 103] (by decide +kernel) (by decide +kernel)
set_option maxRecDepth 20000 in
theorem gX8_replaces_X8_makes : GoodIn wsX8_replaces (wsV RX8 155 RX8 yX8_makes wsX8_makes) := goodIn_app (goodIn_of _ (by decide +kernel)) ggX8_replaces_X8_makes
theorem dX8_replaces_0 : decode cX8_replaces 0 = .ok (.iconst 0, 1) := by decide +kernel
theorem dX8_replaces_1 : decode cX8_replaces 1 = .ok (.istore 4, 2) := by decide +kernel
theorem dX8_replaces_3 : decode cX8_replaces 3 = .ok (.iload 4, 2) := by decide +kernel
theorem dX8_replaces_5 : decode cX8_replaces 5 = .ok (.aload_n 0, 1) := by decide +kernel
theorem dX8_replaces_6 : decode cX8_replaces 6 = .ok (.getfield 85, 3) := by decide +kernel
theorem dX8_replaces_9 : decode cX8_replaces 9 = .ok (.if_icmp .ge 239, 3) := by decide +kernel
theorem dX8_replaces_12 : decode cX8_replaces 12 = .ok (.aload_n 0, 1) := by decide +kernel
theorem dX8_replaces_13 : decode cX8_replaces 13 = .ok (.getfield 13, 3) := by decide +kernel
theorem dX8_replaces_16 : decode cX8_replaces 16 = .ok (.iload 4, 2) := by decide +kernel
theorem dX8_replaces_18 : decode cX8_replaces 18 = .ok (.iaload, 1) := by decide +kernel
theorem dX8_replaces_19 : decode cX8_replaces 19 = .ok (.iconst (-1), 1) := by decide +kernel
theorem dX8_replaces_20 : decode cX8_replaces 20 = .ok (.if_icmp .ne 8, 3) := by decide +kernel
theorem dX8_replaces_23 : decode cX8_replaces 23 = .ok (.iload 4, 2) := by decide +kernel
theorem dX8_replaces_25 : decode cX8_replaces 25 = .ok (.goto 10, 3) := by decide +kernel
theorem dX8_replaces_28 : decode cX8_replaces 28 = .ok (.aload_n 0, 1) := by decide +kernel
theorem dX8_replaces_29 : decode cX8_replaces 29 = .ok (.getfield 13, 3) := by decide +kernel
theorem dX8_replaces_32 : decode cX8_replaces 32 = .ok (.iload 4, 2) := by decide +kernel
theorem dX8_replaces_34 : decode cX8_replaces 34 = .ok (.iaload, 1) := by decide +kernel
theorem dX8_replaces_35 : decode cX8_replaces 35 = .ok (.istore 5, 2) := by decide +kernel
theorem dX8_replaces_37 : decode cX8_replaces 37 = .ok (.aload_n 0, 1) := by decide +kernel
theorem dX8_replaces_38 : decode cX8_replaces 38 = .ok (.getfield 16, 3) := by decide +kernel
theorem dX8_replaces_41 : decode cX8_replaces 41 = .ok (.iload 4, 2) := by decide +kernel
theorem dX8_replaces_43 : decode cX8_replaces 43 = .ok (.iaload, 1) := by decide +kernel
theorem dX8_replaces_44 : decode cX8_replaces 44 = .ok (.iconst (-1), 1) := by decide +kernel
theorem dX8_replaces_45 : decode cX8_replaces 45 = .ok (.if_icmp .ne 8, 3) := by decide +kernel
theorem dX8_replaces_48 : decode cX8_replaces 48 = .ok (.iload 4, 2) := by decide +kernel
theorem dX8_replaces_50 : decode cX8_replaces 50 = .ok (.goto 10, 3) := by decide +kernel
theorem dX8_replaces_53 : decode cX8_replaces 53 = .ok (.aload_n 0, 1) := by decide +kernel
theorem dX8_replaces_54 : decode cX8_replaces 54 = .ok (.getfield 16, 3) := by decide +kernel
theorem dX8_replaces_57 : decode cX8_replaces 57 = .ok (.iload 4, 2) := by decide +kernel
theorem dX8_replaces_59 : decode cX8_replaces 59 = .ok (.iaload, 1) := by decide +kernel
theorem dX8_replaces_60 : decode cX8_replaces 60 = .ok (.istore 6, 2) := by decide +kernel
theorem dX8_replaces_62 : decode cX8_replaces 62 = .ok (.aload_n 0, 1) := by decide +kernel
theorem dX8_replaces_63 : decode cX8_replaces 63 = .ok (.aload_n 0, 1) := by decide +kernel
theorem dX8_replaces_64 : decode cX8_replaces 64 = .ok (.getfield 13, 3) := by decide +kernel
theorem dX8_replaces_67 : decode cX8_replaces 67 = .ok (.iload 4, 2) := by decide +kernel
theorem dX8_replaces_69 : decode cX8_replaces 69 = .ok (.iaload, 1) := by decide +kernel
theorem dX8_replaces_70 : decode cX8_replaces 70 = .ok (.iconst (-1), 1) := by decide +kernel
theorem dX8_replaces_71 : decode cX8_replaces 71 = .ok (.if_icmp .eq 13, 3) := by decide +kernel
theorem dX8_replaces_74 : decode cX8_replaces 74 = .ok (.aload_n 0, 1) := by decide +kernel
theorem dX8_replaces_75 : decode cX8_replaces 75 = .ok (.getfield 63, 3) := by decide +kernel
theorem dX8_replaces_78 : decode cX8_replaces 78 = .ok (.iload 5, 2) := by decide +kernel
theorem dX8_replaces_80 : decode cX8_replaces 80 = .ok (.baload, 1) := by decide +kernel
theorem dX8_replaces_81 : decode cX8_replaces 81 = .ok (.ifCond .eq 28, 3) := by decide +kernel
theorem dX8_replaces_84 : decode cX8_replaces 84 = .ok (.aload_n 0, 1) := by decide +kernel
theorem dX8_replaces_85 : decode cX8_replaces 85 = .ok (.getfield 16, 3) := by decide +kernel
theorem dX8_replaces_88 : decode cX8_replaces 88 = .ok (.iload 4, 2) := by decide +kernel
theorem dX8_replaces_90 : decode cX8_replaces 90 = .ok (.iaload, 1) := by decide +kernel
theorem dX8_replaces_91 : decode cX8_replaces 91 = .ok (.iconst (-1), 1) := by decide +kernel
theorem dX8_replaces_92 : decode cX8_replaces 92 = .ok (.if_icmp .eq 13, 3) := by decide +kernel
theorem dX8_replaces_95 : decode cX8_replaces 95 = .ok (.aload_n 0, 1) := by decide +kernel
theorem dX8_replaces_96 : decode cX8_replaces 96 = .ok (.getfield 63, 3) := by decide +kernel
theorem dX8_replaces_99 : decode cX8_replaces 99 = .ok (.iload 6, 2) := by decide +kernel
theorem dX8_replaces_101 : decode cX8_replaces 101 = .ok (.baload, 1) := by decide +kernel
theorem dX8_replaces_102 : decode cX8_replaces 102 = .ok (.ifCond .eq 7, 3) := by decide +kernel
theorem dX8_replaces_105 : decode cX8_replaces 105 = .ok (.iconst 1, 1) := by decide +kernel
theorem dX8_replaces_106 : decode cX8_replaces 106 = .ok (.goto 4, 3) := by decide +kernel
theorem dX8_replaces_109 : decode cX8_replaces 109 = .ok (.iconst 0, 1) := by decide +kernel
theorem dX8_replaces_110 : decode cX8_replaces 110 = .ok (.putfield 92, 3) := by decide +kernel
theorem dX8_replaces_113 : decode cX8_replaces 113 = .ok (.iload 4, 2) := by decide +kernel
theorem dX8_replaces_115 : decode cX8_replaces 115 = .ok (.iload_n 1, 1) := by decide +kernel
theorem dX8_replaces_116 : decode cX8_replaces 116 = .ok (.if_icmp .ne 51, 3) := by decide +kernel
theorem dX8_replaces_119 : decode cX8_replaces 119 = .ok (.aload_n 0, 1) := by decide +kernel
theorem dX8_replaces_120 : decode cX8_replaces 120 = .ok (.aload_n 0, 1) := by decide +kernel
theorem dX8_replaces_121 : decode cX8_replaces 121 = .ok (.getfield 43, 3) := by decide +kernel
theorem dX8_replaces_124 : decode cX8_replaces 124 = .ok (.bipush 25, 2) := by decide +kernel
theorem dX8_replaces_126 : decode cX8_replaces 126 = .ok (.iload_n 2, 1) := by decide +kernel
theorem dX8_replaces_127 : decode cX8_replaces 127 = .ok (.imul, 1) := by decide +kernel
theorem dX8_replaces_128 : decode cX8_replaces 128 = .ok (.iload_n 3, 1) := by decide +kernel
theorem dX8_replaces_129 : decode cX8_replaces 129 = .ok (.iadd, 1) := by decide +kernel
theorem dX8_replaces_130 : decode cX8_replaces 130 = .ok (.baload, 1) := by decide +kernel
theorem dX8_replaces_131 : decode cX8_replaces 131 = .ok (.putfield 92, 3) := by decide +kernel
theorem dX8_replaces_134 : decode cX8_replaces 134 = .ok (.aload_n 0, 1) := by decide +kernel
theorem dX8_replaces_135 : decode cX8_replaces 135 = .ok (.aload_n 0, 1) := by decide +kernel
theorem dX8_replaces_136 : decode cX8_replaces 136 = .ok (.getfield 47, 3) := by decide +kernel
theorem dX8_replaces_139 : decode cX8_replaces 139 = .ok (.bipush 25, 2) := by decide +kernel
theorem dX8_replaces_141 : decode cX8_replaces 141 = .ok (.iload_n 2, 1) := by decide +kernel
theorem dX8_replaces_142 : decode cX8_replaces 142 = .ok (.imul, 1) := by decide +kernel
theorem dX8_replaces_143 : decode cX8_replaces 143 = .ok (.iload_n 3, 1) := by decide +kernel
theorem dX8_replaces_144 : decode cX8_replaces 144 = .ok (.iadd, 1) := by decide +kernel
theorem dX8_replaces_145 : decode cX8_replaces 145 = .ok (.laload, 1) := by decide +kernel
theorem dX8_replaces_146 : decode cX8_replaces 146 = .ok (.putfield 96, 3) := by decide +kernel
theorem dX8_replaces_149 : decode cX8_replaces 149 = .ok (.aload_n 0, 1) := by decide +kernel
theorem dX8_replaces_150 : decode cX8_replaces 150 = .ok (.aload_n 0, 1) := by decide +kernel
theorem dX8_replaces_151 : decode cX8_replaces 151 = .ok (.getfield 51, 3) := by decide +kernel
theorem dX8_replaces_154 : decode cX8_replaces 154 = .ok (.bipush 25, 2) := by decide +kernel
theorem dX8_replaces_156 : decode cX8_replaces 156 = .ok (.iload_n 2, 1) := by decide +kernel
theorem dX8_replaces_157 : decode cX8_replaces 157 = .ok (.imul, 1) := by decide +kernel
theorem dX8_replaces_158 : decode cX8_replaces 158 = .ok (.iload_n 3, 1) := by decide +kernel
theorem dX8_replaces_159 : decode cX8_replaces 159 = .ok (.iadd, 1) := by decide +kernel
theorem dX8_replaces_160 : decode cX8_replaces 160 = .ok (.laload, 1) := by decide +kernel
theorem dX8_replaces_161 : decode cX8_replaces 161 = .ok (.putfield 100, 3) := by decide +kernel
theorem dX8_replaces_164 : decode cX8_replaces 164 = .ok (.goto 45, 3) := by decide +kernel
theorem dX8_replaces_167 : decode cX8_replaces 167 = .ok (.aload_n 0, 1) := by decide +kernel
theorem dX8_replaces_168 : decode cX8_replaces 168 = .ok (.getfield 92, 3) := by decide +kernel
theorem dX8_replaces_171 : decode cX8_replaces 171 = .ok (.ifCond .eq 38, 3) := by decide +kernel
theorem dX8_replaces_174 : decode cX8_replaces 174 = .ok (.aload_n 0, 1) := by decide +kernel
theorem dX8_replaces_175 : decode cX8_replaces 175 = .ok (.iload 4, 2) := by decide +kernel
theorem dX8_replaces_177 : decode cX8_replaces 177 = .ok (.iload_n 3, 1) := by decide +kernel
theorem dX8_replaces_178 : decode cX8_replaces 178 = .ok (.aload_n 0, 1) := by decide +kernel
theorem dX8_replaces_179 : decode cX8_replaces 179 = .ok (.getfield 66, 3) := by decide +kernel
theorem dX8_replaces_182 : decode cX8_replaces 182 = .ok (.iload 5, 2) := by decide +kernel
theorem dX8_replaces_184 : decode cX8_replaces 184 = .ok (.laload, 1) := by decide +kernel
theorem dX8_replaces_185 : decode cX8_replaces 185 = .ok (.aload_n 0, 1) := by decide +kernel
theorem dX8_replaces_186 : decode cX8_replaces 186 = .ok (.getfield 69, 3) := by decide +kernel
theorem dX8_replaces_189 : decode cX8_replaces 189 = .ok (.iload 5, 2) := by decide +kernel
theorem dX8_replaces_191 : decode cX8_replaces 191 = .ok (.laload, 1) := by decide +kernel
theorem dX8_replaces_192 : decode cX8_replaces 192 = .ok (.aload_n 0, 1) := by decide +kernel
theorem dX8_replaces_193 : decode cX8_replaces 193 = .ok (.getfield 66, 3) := by decide +kernel
theorem dX8_replaces_196 : decode cX8_replaces 196 = .ok (.iload 6, 2) := by decide +kernel
theorem dX8_replaces_198 : decode cX8_replaces 198 = .ok (.laload, 1) := by decide +kernel
theorem dX8_replaces_199 : decode cX8_replaces 199 = .ok (.aload_n 0, 1) := by decide +kernel
theorem dX8_replaces_200 : decode cX8_replaces 200 = .ok (.getfield 69, 3) := by decide +kernel
theorem dX8_replaces_203 : decode cX8_replaces 203 = .ok (.iload 6, 2) := by decide +kernel
theorem dX8_replaces_205 : decode cX8_replaces 205 = .ok (.laload, 1) := by decide +kernel
theorem dX8_replaces_206 : decode cX8_replaces 206 = .ok (.invokevirtual 155, 3) := by decide +kernel
theorem dX8_replaces_209 : decode cX8_replaces 209 = .ok (.aload_n 0, 1) := by decide +kernel
theorem dX8_replaces_210 : decode cX8_replaces 210 = .ok (.getfield 63, 3) := by decide +kernel
theorem dX8_replaces_213 : decode cX8_replaces 213 = .ok (.iload 4, 2) := by decide +kernel
theorem dX8_replaces_215 : decode cX8_replaces 215 = .ok (.aload_n 0, 1) := by decide +kernel
theorem dX8_replaces_216 : decode cX8_replaces 216 = .ok (.getfield 92, 3) := by decide +kernel
theorem dX8_replaces_219 : decode cX8_replaces 219 = .ok (.bastore, 1) := by decide +kernel
theorem dX8_replaces_220 : decode cX8_replaces 220 = .ok (.aload_n 0, 1) := by decide +kernel
theorem dX8_replaces_221 : decode cX8_replaces 221 = .ok (.getfield 66, 3) := by decide +kernel
theorem dX8_replaces_224 : decode cX8_replaces 224 = .ok (.iload 4, 2) := by decide +kernel
theorem dX8_replaces_226 : decode cX8_replaces 226 = .ok (.aload_n 0, 1) := by decide +kernel
theorem dX8_replaces_227 : decode cX8_replaces 227 = .ok (.getfield 96, 3) := by decide +kernel
theorem dX8_replaces_230 : decode cX8_replaces 230 = .ok (.lastore, 1) := by decide +kernel
theorem dX8_replaces_231 : decode cX8_replaces 231 = .ok (.aload_n 0, 1) := by decide +kernel
theorem dX8_replaces_232 : decode cX8_replaces 232 = .ok (.getfield 69, 3) := by decide +kernel
theorem dX8_replaces_235 : decode cX8_replaces 235 = .ok (.iload 4, 2) := by decide +kernel
theorem dX8_replaces_237 : decode cX8_replaces 237 = .ok (.aload_n 0, 1) := by decide +kernel
theorem dX8_replaces_238 : decode cX8_replaces 238 = .ok (.getfield 100, 3) := by decide +kernel
theorem dX8_replaces_241 : decode cX8_replaces 241 = .ok (.lastore, 1) := by decide +kernel
theorem dX8_replaces_242 : decode cX8_replaces 242 = .ok (.iinc 4 1, 3) := by decide +kernel
theorem dX8_replaces_245 : decode cX8_replaces 245 = .ok (.goto (-242), 3) := by decide +kernel
theorem dX8_replaces_248 : decode cX8_replaces 248 = .ok (.return_, 1) := by decide +kernel
set_option maxRecDepth 20000 in
theorem ggX8_instead_X8_isProgram : GoodIn wsX8_instead wsX8_isProgram := goodIn_r _ [8, 9, 10, 11, 7, 12, 95, 96, 97, 98, 99, 100, 101, 102, 103, 104, 105, 106, 107, 108, 109, 110, 111, 112, 113, 114, 115, 116, 117, 118, 119, 120, 121, 122] (by decide +kernel) (by decide +kernel)
set_option maxRecDepth 20000 in
theorem gX8_instead_X8_isProgram : GoodIn wsX8_instead (wsV RX8 170 RX8 yX8_isProgram wsX8_isProgram) := goodIn_app (goodIn_of _ (by decide +kernel)) ggX8_instead_X8_isProgram
set_option maxRecDepth 20000 in
theorem ggX8_instead_X8_isPlace : GoodIn wsX8_instead wsX8_isPlace := goodIn_r _ [15, 10, 11, 7, 12] (by decide +kernel) (by decide +kernel)
set_option maxRecDepth 20000 in
theorem gX8_instead_X8_isPlace : GoodIn wsX8_instead (va_wsS RX8 184 yX8_isPlace wsX8_isPlace) := goodIn_app (goodIn_of _ (by decide +kernel)) ggX8_instead_X8_isPlace
set_option maxRecDepth 20000 in
theorem ggX8_instead_X8_replaces : GoodIn wsX8_instead wsX8_replaces := goodIn_r _ [19, 9, 20, 21, 1, 22, 23, 24, 25, 26, 27, 3, 2, 28, 29, 30, 7, 31, 32, 33, 34, 35, 36, 37, 38, 39, 40, 41, 42, 43, 44, 45, 46, 47, 48, 49, 50, 51, 52, 53, 54, 55, 56, 57, 58, 59, 60, 61, 62, 63, 64, 65, 66, 67, 68, 69, 70, 71, 72, 73, 74, 75, 76, 77, 78, 79, 80, 81, 82, 83, 84, 85, 86, 87, 88, 89, 95, 96, 97, 98, 99, 100, 101, 102, 103, 104, 105, 106, 107, 108, 109, 110, 111, 112, 113, 114, 115, 116, 117, 118, 119, 120, 121, 122] (by decide +kernel) (by decide +kernel)
set_option maxRecDepth 20000 in
theorem gX8_instead_X8_replaces : GoodIn wsX8_instead (wsV RX8 191 RX8 yX8_replaces wsX8_replaces) := goodIn_app (goodIn_of _ (by decide +kernel)) ggX8_instead_X8_replaces
set_option maxRecDepth 20000 in
theorem ggX8_instead_X8_holds : GoodIn wsX8_instead wsX8_holds := goodIn_r _ [93, 94, 95, 96, 97, 98, 99, 100, 101, 102, 103, 104, 105, 106, 107, 108, 109, 110, 111, 112, 113, 114, 115, 116, 117, 118, 119, 120, 121, 122] (by decide +kernel) (by decide +kernel)
set_option maxRecDepth 20000 in
theorem gX8_instead_X8_holds : GoodIn wsX8_instead (wsV RX8 162 RX8 yX8_holds wsX8_holds) := goodIn_app (goodIn_of _ (by decide +kernel)) ggX8_instead_X8_holds
theorem dX8_instead_0 : decode cX8_instead 0 = .ok (.aload_n 0, 1) := by decide +kernel
theorem dX8_instead_1 : decode cX8_instead 1 = .ok (.iload_n 1, 1) := by decide +kernel
theorem dX8_instead_2 : decode cX8_instead 2 = .ok (.invokevirtual 170, 3) := by decide +kernel
theorem dX8_instead_5 : decode cX8_instead 5 = .ok (.ifCond .eq 23, 3) := by decide +kernel
theorem dX8_instead_8 : decode cX8_instead 8 = .ok (.aload_n 0, 1) := by decide +kernel
theorem dX8_instead_9 : decode cX8_instead 9 = .ok (.iload_n 2, 1) := by decide +kernel
theorem dX8_instead_10 : decode cX8_instead 10 = .ok (.invokevirtual 170, 3) := by decide +kernel
theorem dX8_instead_13 : decode cX8_instead 13 = .ok (.ifCond .eq 15, 3) := by decide +kernel
theorem dX8_instead_16 : decode cX8_instead 16 = .ok (.aload_n 0, 1) := by decide +kernel
theorem dX8_instead_17 : decode cX8_instead 17 = .ok (.iload_n 3, 1) := by decide +kernel
theorem dX8_instead_18 : decode cX8_instead 18 = .ok (.invokevirtual 170, 3) := by decide +kernel
theorem dX8_instead_21 : decode cX8_instead 21 = .ok (.ifCond .eq 7, 3) := by decide +kernel
theorem dX8_instead_24 : decode cX8_instead 24 = .ok (.iconst 1, 1) := by decide +kernel
theorem dX8_instead_25 : decode cX8_instead 25 = .ok (.goto 4, 3) := by decide +kernel
theorem dX8_instead_28 : decode cX8_instead 28 = .ok (.iconst 0, 1) := by decide +kernel
theorem dX8_instead_29 : decode cX8_instead 29 = .ok (.istore 6, 2) := by decide +kernel
theorem dX8_instead_31 : decode cX8_instead 31 = .ok (.iload 6, 2) := by decide +kernel
theorem dX8_instead_33 : decode cX8_instead 33 = .ok (.ifCond .eq 19, 3) := by decide +kernel
theorem dX8_instead_36 : decode cX8_instead 36 = .ok (.iload 4, 2) := by decide +kernel
theorem dX8_instead_38 : decode cX8_instead 38 = .ok (.invokestatic 184, 3) := by decide +kernel
theorem dX8_instead_41 : decode cX8_instead 41 = .ok (.ifCond .eq 11, 3) := by decide +kernel
theorem dX8_instead_44 : decode cX8_instead 44 = .ok (.aload_n 0, 1) := by decide +kernel
theorem dX8_instead_45 : decode cX8_instead 45 = .ok (.iload_n 2, 1) := by decide +kernel
theorem dX8_instead_46 : decode cX8_instead 46 = .ok (.iload_n 3, 1) := by decide +kernel
theorem dX8_instead_47 : decode cX8_instead 47 = .ok (.iload 4, 2) := by decide +kernel
theorem dX8_instead_49 : decode cX8_instead 49 = .ok (.invokevirtual 191, 3) := by decide +kernel
theorem dX8_instead_52 : decode cX8_instead 52 = .ok (.aload_n 0, 1) := by decide +kernel
theorem dX8_instead_53 : decode cX8_instead 53 = .ok (.iload 6, 2) := by decide +kernel
theorem dX8_instead_55 : decode cX8_instead 55 = .ok (.ifCond .ne 7, 3) := by decide +kernel
theorem dX8_instead_58 : decode cX8_instead 58 = .ok (.iconst 1, 1) := by decide +kernel
theorem dX8_instead_59 : decode cX8_instead 59 = .ok (.goto 29, 3) := by decide +kernel
theorem dX8_instead_62 : decode cX8_instead 62 = .ok (.iload 4, 2) := by decide +kernel
theorem dX8_instead_64 : decode cX8_instead 64 = .ok (.invokestatic 184, 3) := by decide +kernel
theorem dX8_instead_67 : decode cX8_instead 67 = .ok (.ifCond .ne 7, 3) := by decide +kernel
theorem dX8_instead_70 : decode cX8_instead 70 = .ok (.iconst 2, 1) := by decide +kernel
theorem dX8_instead_71 : decode cX8_instead 71 = .ok (.goto 17, 3) := by decide +kernel
theorem dX8_instead_74 : decode cX8_instead 74 = .ok (.aload_n 0, 1) := by decide +kernel
theorem dX8_instead_75 : decode cX8_instead 75 = .ok (.getfield 63, 3) := by decide +kernel
theorem dX8_instead_78 : decode cX8_instead 78 = .ok (.iload_n 1, 1) := by decide +kernel
theorem dX8_instead_79 : decode cX8_instead 79 = .ok (.baload, 1) := by decide +kernel
theorem dX8_instead_80 : decode cX8_instead 80 = .ok (.ifCond .eq 7, 3) := by decide +kernel
theorem dX8_instead_83 : decode cX8_instead 83 = .ok (.iconst 0, 1) := by decide +kernel
theorem dX8_instead_84 : decode cX8_instead 84 = .ok (.goto 4, 3) := by decide +kernel
theorem dX8_instead_87 : decode cX8_instead 87 = .ok (.iconst 3, 1) := by decide +kernel
theorem dX8_instead_88 : decode cX8_instead 88 = .ok (.invokevirtual 162, 3) := by decide +kernel
theorem dX8_instead_91 : decode cX8_instead 91 = .ok (.ifCond .ne 5, 3) := by decide +kernel
theorem dX8_instead_94 : decode cX8_instead 94 = .ok (.lconst 0, 1) := by decide +kernel
theorem dX8_instead_95 : decode cX8_instead 95 = .ok (.lreturn, 1) := by decide +kernel
theorem dX8_instead_96 : decode cX8_instead 96 = .ok (.iload 5, 2) := by decide +kernel
theorem dX8_instead_98 : decode cX8_instead 98 = .ok (.ifCond .eq 12, 3) := by decide +kernel
theorem dX8_instead_101 : decode cX8_instead 101 = .ok (.aload_n 0, 1) := by decide +kernel
theorem dX8_instead_102 : decode cX8_instead 102 = .ok (.getfield 69, 3) := by decide +kernel
theorem dX8_instead_105 : decode cX8_instead 105 = .ok (.iload_n 1, 1) := by decide +kernel
theorem dX8_instead_106 : decode cX8_instead 106 = .ok (.laload, 1) := by decide +kernel
theorem dX8_instead_107 : decode cX8_instead 107 = .ok (.goto 9, 3) := by decide +kernel
theorem dX8_instead_110 : decode cX8_instead 110 = .ok (.aload_n 0, 1) := by decide +kernel
theorem dX8_instead_111 : decode cX8_instead 111 = .ok (.getfield 66, 3) := by decide +kernel
theorem dX8_instead_114 : decode cX8_instead 114 = .ok (.iload_n 1, 1) := by decide +kernel
theorem dX8_instead_115 : decode cX8_instead 115 = .ok (.laload, 1) := by decide +kernel
theorem dX8_instead_116 : decode cX8_instead 116 = .ok (.lreturn, 1) := by decide +kernel
set_option maxRecDepth 20000 in
theorem ggX8_place_X8_isProgram : GoodIn wsX8_place wsX8_isProgram := goodIn_r _ [8, 9, 10, 11, 7, 12, 21, 22, 23, 24, 25, 26, 27, 28, 29, 30, 31, 32, 33, 34, 35, 36, 37, 38, 39, 40, 41, 42, 43, 44, 45, 46, 47, 48] (by decide +kernel) (by decide +kernel)
set_option maxRecDepth 20000 in
theorem gX8_place_X8_isProgram : GoodIn wsX8_place (wsV RX8 170 RX8 yX8_isProgram wsX8_isProgram) := goodIn_app (goodIn_of _ (by decide +kernel)) ggX8_place_X8_isProgram
set_option maxRecDepth 20000 in
theorem ggX8_place_X8_isPlace : GoodIn wsX8_place wsX8_isPlace := goodIn_r _ [15, 10, 11, 7, 12] (by decide +kernel) (by decide +kernel)
set_option maxRecDepth 20000 in
theorem gX8_place_X8_isPlace : GoodIn wsX8_place (va_wsS RX8 184 yX8_isPlace wsX8_isPlace) := goodIn_app (goodIn_of _ (by decide +kernel)) ggX8_place_X8_isPlace
set_option maxRecDepth 20000 in
theorem ggX8_place_X8_holds : GoodIn wsX8_place wsX8_holds := goodIn_r _ [19, 20, 21, 22, 23, 24, 25, 26, 27, 28, 29, 30, 31, 32, 33, 34, 35, 36, 37, 38, 39, 40, 41, 42, 43, 44, 45, 46, 47, 48] (by decide +kernel) (by decide +kernel)
set_option maxRecDepth 20000 in
theorem gX8_place_X8_holds : GoodIn wsX8_place (wsV RX8 162 RX8 yX8_holds wsX8_holds) := goodIn_app (goodIn_of _ (by decide +kernel)) ggX8_place_X8_holds
theorem dX8_place_0 : decode cX8_place 0 = .ok (.aload_n 0, 1) := by decide +kernel
theorem dX8_place_1 : decode cX8_place 1 = .ok (.aload_n 0, 1) := by decide +kernel
theorem dX8_place_2 : decode cX8_place 2 = .ok (.iload_n 1, 1) := by decide +kernel
theorem dX8_place_3 : decode cX8_place 3 = .ok (.invokevirtual 170, 3) := by decide +kernel
theorem dX8_place_6 : decode cX8_place 6 = .ok (.ifCond .ne 7, 3) := by decide +kernel
theorem dX8_place_9 : decode cX8_place 9 = .ok (.iconst 1, 1) := by decide +kernel
theorem dX8_place_10 : decode cX8_place 10 = .ok (.goto 15, 3) := by decide +kernel
theorem dX8_place_13 : decode cX8_place 13 = .ok (.iload_n 2, 1) := by decide +kernel
theorem dX8_place_14 : decode cX8_place 14 = .ok (.invokestatic 184, 3) := by decide +kernel
theorem dX8_place_17 : decode cX8_place 17 = .ok (.ifCond .eq 7, 3) := by decide +kernel
theorem dX8_place_20 : decode cX8_place 20 = .ok (.iconst 0, 1) := by decide +kernel
theorem dX8_place_21 : decode cX8_place 21 = .ok (.goto 4, 3) := by decide +kernel
theorem dX8_place_24 : decode cX8_place 24 = .ok (.iconst 2, 1) := by decide +kernel
theorem dX8_place_25 : decode cX8_place 25 = .ok (.invokevirtual 162, 3) := by decide +kernel
theorem dX8_place_28 : decode cX8_place 28 = .ok (.ifCond .ne 5, 3) := by decide +kernel
theorem dX8_place_31 : decode cX8_place 31 = .ok (.iconst 0, 1) := by decide +kernel
theorem dX8_place_32 : decode cX8_place 32 = .ok (.ireturn, 1) := by decide +kernel
theorem dX8_place_33 : decode cX8_place 33 = .ok (.iconst (-1), 1) := by decide +kernel
theorem dX8_place_34 : decode cX8_place 34 = .ok (.istore_n 3, 1) := by decide +kernel
theorem dX8_place_35 : decode cX8_place 35 = .ok (.bipush 24, 2) := by decide +kernel
theorem dX8_place_37 : decode cX8_place 37 = .ok (.istore 4, 2) := by decide +kernel
theorem dX8_place_39 : decode cX8_place 39 = .ok (.iload 4, 2) := by decide +kernel
theorem dX8_place_41 : decode cX8_place 41 = .ok (.iload_n 2, 1) := by decide +kernel
theorem dX8_place_42 : decode cX8_place 42 = .ok (.if_icmp .lt 60, 3) := by decide +kernel
theorem dX8_place_45 : decode cX8_place 45 = .ok (.bipush 25, 2) := by decide +kernel
theorem dX8_place_47 : decode cX8_place 47 = .ok (.iload_n 1, 1) := by decide +kernel
theorem dX8_place_48 : decode cX8_place 48 = .ok (.imul, 1) := by decide +kernel
theorem dX8_place_49 : decode cX8_place 49 = .ok (.iload 4, 2) := by decide +kernel
theorem dX8_place_51 : decode cX8_place 51 = .ok (.iadd, 1) := by decide +kernel
theorem dX8_place_52 : decode cX8_place 52 = .ok (.istore 5, 2) := by decide +kernel
theorem dX8_place_54 : decode cX8_place 54 = .ok (.aload_n 0, 1) := by decide +kernel
theorem dX8_place_55 : decode cX8_place 55 = .ok (.getfield 54, 3) := by decide +kernel
theorem dX8_place_58 : decode cX8_place 58 = .ok (.iload 5, 2) := by decide +kernel
theorem dX8_place_60 : decode cX8_place 60 = .ok (.baload, 1) := by decide +kernel
theorem dX8_place_61 : decode cX8_place 61 = .ok (.ifCond .eq 33, 3) := by decide +kernel
theorem dX8_place_64 : decode cX8_place 64 = .ok (.aload_n 0, 1) := by decide +kernel
theorem dX8_place_65 : decode cX8_place 65 = .ok (.getfield 60, 3) := by decide +kernel
theorem dX8_place_68 : decode cX8_place 68 = .ok (.iload 5, 2) := by decide +kernel
theorem dX8_place_70 : decode cX8_place 70 = .ok (.laload, 1) := by decide +kernel
theorem dX8_place_71 : decode cX8_place 71 = .ok (.aload_n 0, 1) := by decide +kernel
theorem dX8_place_72 : decode cX8_place 72 = .ok (.getfield 57, 3) := by decide +kernel
theorem dX8_place_75 : decode cX8_place 75 = .ok (.iload 5, 2) := by decide +kernel
theorem dX8_place_77 : decode cX8_place 77 = .ok (.laload, 1) := by decide +kernel
theorem dX8_place_78 : decode cX8_place 78 = .ok (.lsub, 1) := by decide +kernel
theorem dX8_place_79 : decode cX8_place 79 = .ok (.lconst 1, 1) := by decide +kernel
theorem dX8_place_80 : decode cX8_place 80 = .ok (.iload 4, 2) := by decide +kernel
theorem dX8_place_82 : decode cX8_place 82 = .ok (.iload_n 2, 1) := by decide +kernel
theorem dX8_place_83 : decode cX8_place 83 = .ok (.isub, 1) := by decide +kernel
theorem dX8_place_84 : decode cX8_place 84 = .ok (.lshl, 1) := by decide +kernel
theorem dX8_place_85 : decode cX8_place 85 = .ok (.lcmp, 1) := by decide +kernel
theorem dX8_place_86 : decode cX8_place 86 = .ok (.ifCond .gt 8, 3) := by decide +kernel
theorem dX8_place_89 : decode cX8_place 89 = .ok (.iload 4, 2) := by decide +kernel
theorem dX8_place_91 : decode cX8_place 91 = .ok (.goto 4, 3) := by decide +kernel
theorem dX8_place_94 : decode cX8_place 94 = .ok (.iload_n 3, 1) := by decide +kernel
theorem dX8_place_95 : decode cX8_place 95 = .ok (.istore_n 3, 1) := by decide +kernel
theorem dX8_place_96 : decode cX8_place 96 = .ok (.iinc 4 (-1), 3) := by decide +kernel
theorem dX8_place_99 : decode cX8_place 99 = .ok (.goto (-60), 3) := by decide +kernel
theorem dX8_place_102 : decode cX8_place 102 = .ok (.iload_n 3, 1) := by decide +kernel
theorem dX8_place_103 : decode cX8_place 103 = .ok (.ireturn, 1) := by decide +kernel
theorem dX8_answer_0 : decode cX8_answer 0 = .ok (.bipush 25, 2) := by decide +kernel
theorem dX8_answer_2 : decode cX8_answer 2 = .ok (.iload_n 1, 1) := by decide +kernel
theorem dX8_answer_3 : decode cX8_answer 3 = .ok (.imul, 1) := by decide +kernel
theorem dX8_answer_4 : decode cX8_answer 4 = .ok (.iload_n 3, 1) := by decide +kernel
theorem dX8_answer_5 : decode cX8_answer 5 = .ok (.iadd, 1) := by decide +kernel
theorem dX8_answer_6 : decode cX8_answer 6 = .ok (.istore 4, 2) := by decide +kernel
theorem dX8_answer_8 : decode cX8_answer 8 = .ok (.bipush 25, 2) := by decide +kernel
theorem dX8_answer_10 : decode cX8_answer 10 = .ok (.iload_n 2, 1) := by decide +kernel
theorem dX8_answer_11 : decode cX8_answer 11 = .ok (.imul, 1) := by decide +kernel
theorem dX8_answer_12 : decode cX8_answer 12 = .ok (.iload_n 3, 1) := by decide +kernel
theorem dX8_answer_13 : decode cX8_answer 13 = .ok (.iadd, 1) := by decide +kernel
theorem dX8_answer_14 : decode cX8_answer 14 = .ok (.istore 5, 2) := by decide +kernel
theorem dX8_answer_16 : decode cX8_answer 16 = .ok (.aload_n 0, 1) := by decide +kernel
theorem dX8_answer_17 : decode cX8_answer 17 = .ok (.getfield 54, 3) := by decide +kernel
theorem dX8_answer_20 : decode cX8_answer 20 = .ok (.iload 4, 2) := by decide +kernel
theorem dX8_answer_22 : decode cX8_answer 22 = .ok (.baload, 1) := by decide +kernel
theorem dX8_answer_23 : decode cX8_answer 23 = .ok (.ifCond .eq 13, 3) := by decide +kernel
theorem dX8_answer_26 : decode cX8_answer 26 = .ok (.aload_n 0, 1) := by decide +kernel
theorem dX8_answer_27 : decode cX8_answer 27 = .ok (.getfield 54, 3) := by decide +kernel
theorem dX8_answer_30 : decode cX8_answer 30 = .ok (.iload 5, 2) := by decide +kernel
theorem dX8_answer_32 : decode cX8_answer 32 = .ok (.baload, 1) := by decide +kernel
theorem dX8_answer_33 : decode cX8_answer 33 = .ok (.ifCond .ne 5, 3) := by decide +kernel
theorem dX8_answer_36 : decode cX8_answer 36 = .ok (.iconst 0, 1) := by decide +kernel
theorem dX8_answer_37 : decode cX8_answer 37 = .ok (.ireturn, 1) := by decide +kernel
theorem dX8_answer_38 : decode cX8_answer 38 = .ok (.aload_n 0, 1) := by decide +kernel
theorem dX8_answer_39 : decode cX8_answer 39 = .ok (.getfield 60, 3) := by decide +kernel
theorem dX8_answer_42 : decode cX8_answer 42 = .ok (.iload 4, 2) := by decide +kernel
theorem dX8_answer_44 : decode cX8_answer 44 = .ok (.laload, 1) := by decide +kernel
theorem dX8_answer_45 : decode cX8_answer 45 = .ok (.aload_n 0, 1) := by decide +kernel
theorem dX8_answer_46 : decode cX8_answer 46 = .ok (.getfield 57, 3) := by decide +kernel
theorem dX8_answer_49 : decode cX8_answer 49 = .ok (.iload 5, 2) := by decide +kernel
theorem dX8_answer_51 : decode cX8_answer 51 = .ok (.laload, 1) := by decide +kernel
theorem dX8_answer_52 : decode cX8_answer 52 = .ok (.lcmp, 1) := by decide +kernel
theorem dX8_answer_53 : decode cX8_answer 53 = .ok (.ifCond .ge 7, 3) := by decide +kernel
theorem dX8_answer_56 : decode cX8_answer 56 = .ok (.iconst (-1), 1) := by decide +kernel
theorem dX8_answer_57 : decode cX8_answer 57 = .ok (.goto 26, 3) := by decide +kernel
theorem dX8_answer_60 : decode cX8_answer 60 = .ok (.aload_n 0, 1) := by decide +kernel
theorem dX8_answer_61 : decode cX8_answer 61 = .ok (.getfield 60, 3) := by decide +kernel
theorem dX8_answer_64 : decode cX8_answer 64 = .ok (.iload 5, 2) := by decide +kernel
theorem dX8_answer_66 : decode cX8_answer 66 = .ok (.laload, 1) := by decide +kernel
theorem dX8_answer_67 : decode cX8_answer 67 = .ok (.aload_n 0, 1) := by decide +kernel
theorem dX8_answer_68 : decode cX8_answer 68 = .ok (.getfield 57, 3) := by decide +kernel
theorem dX8_answer_71 : decode cX8_answer 71 = .ok (.iload 4, 2) := by decide +kernel
theorem dX8_answer_73 : decode cX8_answer 73 = .ok (.laload, 1) := by decide +kernel
theorem dX8_answer_74 : decode cX8_answer 74 = .ok (.lcmp, 1) := by decide +kernel
theorem dX8_answer_75 : decode cX8_answer 75 = .ok (.ifCond .ge 7, 3) := by decide +kernel
theorem dX8_answer_78 : decode cX8_answer 78 = .ok (.iconst 1, 1) := by decide +kernel
theorem dX8_answer_79 : decode cX8_answer 79 = .ok (.goto 4, 3) := by decide +kernel
theorem dX8_answer_82 : decode cX8_answer 82 = .ok (.iconst 0, 1) := by decide +kernel
theorem dX8_answer_83 : decode cX8_answer 83 = .ok (.ireturn, 1) := by decide +kernel
set_option maxRecDepth 20000 in
theorem ggX8_compare_X8_isProgram : GoodIn wsX8_compare wsX8_isProgram := goodIn_r _ [5, 6, 7, 8, 4, 9, 25, 26, 27, 28, 29, 30, 31, 32, 33, 34, 35, 36, 37, 38, 39, 40, 41, 42, 43, 44, 45, 46, 47, 48, 49, 50, 51, 52] (by decide +kernel) (by decide +kernel)
set_option maxRecDepth 20000 in
theorem gX8_compare_X8_isProgram : GoodIn wsX8_compare (wsV RX8 170 RX8 yX8_isProgram wsX8_isProgram) := goodIn_app (goodIn_of _ (by decide +kernel)) ggX8_compare_X8_isProgram
set_option maxRecDepth 20000 in
theorem ggX8_compare_X8_isPlace : GoodIn wsX8_compare wsX8_isPlace := goodIn_r _ [12, 7, 8, 4, 9] (by decide +kernel) (by decide +kernel)
set_option maxRecDepth 20000 in
theorem gX8_compare_X8_isPlace : GoodIn wsX8_compare (va_wsS RX8 184 yX8_isPlace wsX8_isPlace) := goodIn_app (goodIn_of _ (by decide +kernel)) ggX8_compare_X8_isPlace
set_option maxRecDepth 20000 in
theorem ggX8_compare_X8_holds : GoodIn wsX8_compare wsX8_holds := goodIn_r _ [16, 17, 25, 26, 27, 28, 29, 30, 31, 32, 33, 34, 35, 36, 37, 38, 39, 40, 41, 42, 43, 44, 45, 46, 47, 48, 49, 50, 51, 52] (by decide +kernel) (by decide +kernel)
set_option maxRecDepth 20000 in
theorem gX8_compare_X8_holds : GoodIn wsX8_compare (wsV RX8 162 RX8 yX8_holds wsX8_holds) := goodIn_app (goodIn_of _ (by decide +kernel)) ggX8_compare_X8_holds
set_option maxRecDepth 20000 in
theorem ggX8_compare_X8_answer : GoodIn wsX8_compare wsX8_answer := goodIn_r _ [21, 22, 23, 24, 25, 26, 27, 28, 29, 30, 31, 32, 33, 34, 35, 36, 37, 38, 39, 40, 41, 42, 43, 44, 45, 46, 47, 48, 49, 50, 51, 52] (by decide +kernel) (by decide +kernel)
set_option maxRecDepth 20000 in
theorem gX8_compare_X8_answer : GoodIn wsX8_compare (wsV RX8 195 RX8 yX8_answer wsX8_answer) := goodIn_app (goodIn_of _ (by decide +kernel)) ggX8_compare_X8_answer
theorem dX8_compare_0 : decode cX8_compare 0 = .ok (.aload_n 0, 1) := by decide +kernel
theorem dX8_compare_1 : decode cX8_compare 1 = .ok (.iload_n 1, 1) := by decide +kernel
theorem dX8_compare_2 : decode cX8_compare 2 = .ok (.invokevirtual 170, 3) := by decide +kernel
theorem dX8_compare_5 : decode cX8_compare 5 = .ok (.ifCond .eq 15, 3) := by decide +kernel
theorem dX8_compare_8 : decode cX8_compare 8 = .ok (.aload_n 0, 1) := by decide +kernel
theorem dX8_compare_9 : decode cX8_compare 9 = .ok (.iload_n 2, 1) := by decide +kernel
theorem dX8_compare_10 : decode cX8_compare 10 = .ok (.invokevirtual 170, 3) := by decide +kernel
theorem dX8_compare_13 : decode cX8_compare 13 = .ok (.ifCond .eq 7, 3) := by decide +kernel
theorem dX8_compare_16 : decode cX8_compare 16 = .ok (.iconst 1, 1) := by decide +kernel
theorem dX8_compare_17 : decode cX8_compare 17 = .ok (.goto 4, 3) := by decide +kernel
theorem dX8_compare_20 : decode cX8_compare 20 = .ok (.iconst 0, 1) := by decide +kernel
theorem dX8_compare_21 : decode cX8_compare 21 = .ok (.istore 4, 2) := by decide +kernel
theorem dX8_compare_23 : decode cX8_compare 23 = .ok (.aload_n 0, 1) := by decide +kernel
theorem dX8_compare_24 : decode cX8_compare 24 = .ok (.iload 4, 2) := by decide +kernel
theorem dX8_compare_26 : decode cX8_compare 26 = .ok (.ifCond .ne 7, 3) := by decide +kernel
theorem dX8_compare_29 : decode cX8_compare 29 = .ok (.iconst 1, 1) := by decide +kernel
theorem dX8_compare_30 : decode cX8_compare 30 = .ok (.goto 15, 3) := by decide +kernel
theorem dX8_compare_33 : decode cX8_compare 33 = .ok (.iload_n 3, 1) := by decide +kernel
theorem dX8_compare_34 : decode cX8_compare 34 = .ok (.invokestatic 184, 3) := by decide +kernel
theorem dX8_compare_37 : decode cX8_compare 37 = .ok (.ifCond .eq 7, 3) := by decide +kernel
theorem dX8_compare_40 : decode cX8_compare 40 = .ok (.iconst 0, 1) := by decide +kernel
theorem dX8_compare_41 : decode cX8_compare 41 = .ok (.goto 4, 3) := by decide +kernel
theorem dX8_compare_44 : decode cX8_compare 44 = .ok (.iconst 2, 1) := by decide +kernel
theorem dX8_compare_45 : decode cX8_compare 45 = .ok (.invokevirtual 162, 3) := by decide +kernel
theorem dX8_compare_48 : decode cX8_compare 48 = .ok (.ifCond .eq 13, 3) := by decide +kernel
theorem dX8_compare_51 : decode cX8_compare 51 = .ok (.aload_n 0, 1) := by decide +kernel
theorem dX8_compare_52 : decode cX8_compare 52 = .ok (.iload_n 1, 1) := by decide +kernel
theorem dX8_compare_53 : decode cX8_compare 53 = .ok (.iload_n 2, 1) := by decide +kernel
theorem dX8_compare_54 : decode cX8_compare 54 = .ok (.iload_n 3, 1) := by decide +kernel
theorem dX8_compare_55 : decode cX8_compare 55 = .ok (.invokevirtual 195, 3) := by decide +kernel
theorem dX8_compare_58 : decode cX8_compare 58 = .ok (.goto 4, 3) := by decide +kernel
theorem dX8_compare_61 : decode cX8_compare 61 = .ok (.iconst 0, 1) := by decide +kernel
theorem dX8_compare_62 : decode cX8_compare 62 = .ok (.ireturn, 1) := by decide +kernel
set_option maxRecDepth 20000 in
theorem ggX8_decided_X8_isProgram : GoodIn wsX8_decided wsX8_isProgram := goodIn_r _ [5, 6, 7, 8, 4, 9, 22, 23, 24, 25, 26, 27, 28, 29, 30, 31, 32, 33, 34, 35, 36, 37, 38, 39, 40, 41, 42, 43, 44, 45, 46, 47, 48, 49] (by decide +kernel) (by decide +kernel)
set_option maxRecDepth 20000 in
theorem gX8_decided_X8_isProgram : GoodIn wsX8_decided (wsV RX8 170 RX8 yX8_isProgram wsX8_isProgram) := goodIn_app (goodIn_of _ (by decide +kernel)) ggX8_decided_X8_isProgram
set_option maxRecDepth 20000 in
theorem ggX8_decided_X8_holds : GoodIn wsX8_decided wsX8_holds := goodIn_r _ [13, 14, 22, 23, 24, 25, 26, 27, 28, 29, 30, 31, 32, 33, 34, 35, 36, 37, 38, 39, 40, 41, 42, 43, 44, 45, 46, 47, 48, 49] (by decide +kernel) (by decide +kernel)
set_option maxRecDepth 20000 in
theorem gX8_decided_X8_holds : GoodIn wsX8_decided (wsV RX8 162 RX8 yX8_holds wsX8_holds) := goodIn_app (goodIn_of _ (by decide +kernel)) ggX8_decided_X8_holds
set_option maxRecDepth 20000 in
theorem ggX8_decided_X8_answer : GoodIn wsX8_decided wsX8_answer := goodIn_r _ [18, 19, 20, 21, 22, 23, 24, 25, 26, 27, 28, 29, 30, 31, 32, 33, 34, 35, 36, 37, 38, 39, 40, 41, 42, 43, 44, 45, 46, 47, 48, 49] (by decide +kernel) (by decide +kernel)
set_option maxRecDepth 20000 in
theorem gX8_decided_X8_answer : GoodIn wsX8_decided (wsV RX8 195 RX8 yX8_answer wsX8_answer) := goodIn_app (goodIn_of _ (by decide +kernel)) ggX8_decided_X8_answer
theorem dX8_decided_0 : decode cX8_decided 0 = .ok (.aload_n 0, 1) := by decide +kernel
theorem dX8_decided_1 : decode cX8_decided 1 = .ok (.aload_n 0, 1) := by decide +kernel
theorem dX8_decided_2 : decode cX8_decided 2 = .ok (.iload_n 1, 1) := by decide +kernel
theorem dX8_decided_3 : decode cX8_decided 3 = .ok (.invokevirtual 170, 3) := by decide +kernel
theorem dX8_decided_6 : decode cX8_decided 6 = .ok (.ifCond .eq 15, 3) := by decide +kernel
theorem dX8_decided_9 : decode cX8_decided 9 = .ok (.aload_n 0, 1) := by decide +kernel
theorem dX8_decided_10 : decode cX8_decided 10 = .ok (.iload_n 2, 1) := by decide +kernel
theorem dX8_decided_11 : decode cX8_decided 11 = .ok (.invokevirtual 170, 3) := by decide +kernel
theorem dX8_decided_14 : decode cX8_decided 14 = .ok (.ifCond .eq 7, 3) := by decide +kernel
theorem dX8_decided_17 : decode cX8_decided 17 = .ok (.iconst 0, 1) := by decide +kernel
theorem dX8_decided_18 : decode cX8_decided 18 = .ok (.goto 4, 3) := by decide +kernel
theorem dX8_decided_21 : decode cX8_decided 21 = .ok (.iconst 1, 1) := by decide +kernel
theorem dX8_decided_22 : decode cX8_decided 22 = .ok (.invokevirtual 162, 3) := by decide +kernel
theorem dX8_decided_25 : decode cX8_decided 25 = .ok (.ifCond .ne 5, 3) := by decide +kernel
theorem dX8_decided_28 : decode cX8_decided 28 = .ok (.iconst 0, 1) := by decide +kernel
theorem dX8_decided_29 : decode cX8_decided 29 = .ok (.ireturn, 1) := by decide +kernel
theorem dX8_decided_30 : decode cX8_decided 30 = .ok (.iconst 0, 1) := by decide +kernel
theorem dX8_decided_31 : decode cX8_decided 31 = .ok (.istore_n 3, 1) := by decide +kernel
theorem dX8_decided_32 : decode cX8_decided 32 = .ok (.iload_n 3, 1) := by decide +kernel
theorem dX8_decided_33 : decode cX8_decided 33 = .ok (.bipush 25, 2) := by decide +kernel
theorem dX8_decided_35 : decode cX8_decided 35 = .ok (.if_icmp .ge 19, 3) := by decide +kernel
theorem dX8_decided_38 : decode cX8_decided 38 = .ok (.aload_n 0, 1) := by decide +kernel
theorem dX8_decided_39 : decode cX8_decided 39 = .ok (.iload_n 1, 1) := by decide +kernel
theorem dX8_decided_40 : decode cX8_decided 40 = .ok (.iload_n 2, 1) := by decide +kernel
theorem dX8_decided_41 : decode cX8_decided 41 = .ok (.iload_n 3, 1) := by decide +kernel
theorem dX8_decided_42 : decode cX8_decided 42 = .ok (.invokevirtual 195, 3) := by decide +kernel
theorem dX8_decided_45 : decode cX8_decided 45 = .ok (.ifCond .ne 9, 3) := by decide +kernel
theorem dX8_decided_48 : decode cX8_decided 48 = .ok (.iinc 3 1, 3) := by decide +kernel
theorem dX8_decided_51 : decode cX8_decided 51 = .ok (.goto (-19), 3) := by decide +kernel
theorem dX8_decided_54 : decode cX8_decided 54 = .ok (.iload_n 3, 1) := by decide +kernel
theorem dX8_decided_55 : decode cX8_decided 55 = .ok (.bipush 25, 2) := by decide +kernel
theorem dX8_decided_57 : decode cX8_decided 57 = .ok (.if_icmp .ne 7, 3) := by decide +kernel
theorem dX8_decided_60 : decode cX8_decided 60 = .ok (.iconst (-1), 1) := by decide +kernel
theorem dX8_decided_61 : decode cX8_decided 61 = .ok (.goto 4, 3) := by decide +kernel
theorem dX8_decided_64 : decode cX8_decided 64 = .ok (.iload_n 3, 1) := by decide +kernel
theorem dX8_decided_65 : decode cX8_decided 65 = .ok (.ireturn, 1) := by decide +kernel
theorem dX8_tens_0 : decode cX8_tens 0 = .ok (.lconst 1, 1) := by decide +kernel
theorem dX8_tens_1 : decode cX8_tens 1 = .ok (.lstore_n 1, 1) := by decide +kernel
theorem dX8_tens_2 : decode cX8_tens 2 = .ok (.iconst 0, 1) := by decide +kernel
theorem dX8_tens_3 : decode cX8_tens 3 = .ok (.istore_n 3, 1) := by decide +kernel
theorem dX8_tens_4 : decode cX8_tens 4 = .ok (.iload_n 3, 1) := by decide +kernel
theorem dX8_tens_5 : decode cX8_tens 5 = .ok (.iload_n 0, 1) := by decide +kernel
theorem dX8_tens_6 : decode cX8_tens 6 = .ok (.if_icmp .ge 15, 3) := by decide +kernel
theorem dX8_tens_9 : decode cX8_tens 9 = .ok (.lload_n 1, 1) := by decide +kernel
theorem dX8_tens_10 : decode cX8_tens 10 = .ok (.ldc2_w 198, 3) := by decide +kernel
theorem dX8_tens_13 : decode cX8_tens 13 = .ok (.lmul, 1) := by decide +kernel
theorem dX8_tens_14 : decode cX8_tens 14 = .ok (.lstore_n 1, 1) := by decide +kernel
theorem dX8_tens_15 : decode cX8_tens 15 = .ok (.iinc 3 1, 3) := by decide +kernel
theorem dX8_tens_18 : decode cX8_tens 18 = .ok (.goto (-14), 3) := by decide +kernel
theorem dX8_tens_21 : decode cX8_tens 21 = .ok (.lload_n 1, 1) := by decide +kernel
theorem dX8_tens_22 : decode cX8_tens 22 = .ok (.lreturn, 1) := by decide +kernel
set_option maxRecDepth 20000 in
theorem ggX8_sureOf_X8_tens : GoodIn wsX8_sureOf wsX8_tens := goodIn_r _ [7, 8] (by decide +kernel) (by decide +kernel)
set_option maxRecDepth 20000 in
theorem gX8_sureOf_X8_tens : GoodIn wsX8_sureOf (va_wsS RX8 200 yX8_tens wsX8_tens) := goodIn_app (goodIn_of _ (by decide +kernel)) ggX8_sureOf_X8_tens
set_option maxRecDepth 20000 in
theorem ggX8_sureOf_X8_cut : GoodIn wsX8_sureOf wsX8_cut := goodIn_r _ [11] (by decide +kernel) (by decide +kernel)
set_option maxRecDepth 20000 in
theorem gX8_sureOf_X8_cut : GoodIn wsX8_sureOf (va_wsS RX8 110 yX8_cut wsX8_cut) := goodIn_app (goodIn_of _ (by decide +kernel)) ggX8_sureOf_X8_cut
theorem dX8_sureOf_0 : decode cX8_sureOf 0 = .ok (.bipush 25, 2) := by decide +kernel
theorem dX8_sureOf_2 : decode cX8_sureOf 2 = .ok (.iload_n 1, 1) := by decide +kernel
theorem dX8_sureOf_3 : decode cX8_sureOf 3 = .ok (.imul, 1) := by decide +kernel
theorem dX8_sureOf_4 : decode cX8_sureOf 4 = .ok (.iload_n 2, 1) := by decide +kernel
theorem dX8_sureOf_5 : decode cX8_sureOf 5 = .ok (.iadd, 1) := by decide +kernel
theorem dX8_sureOf_6 : decode cX8_sureOf 6 = .ok (.istore_n 3, 1) := by decide +kernel
theorem dX8_sureOf_7 : decode cX8_sureOf 7 = .ok (.iconst 0, 1) := by decide +kernel
theorem dX8_sureOf_8 : decode cX8_sureOf 8 = .ok (.istore 4, 2) := by decide +kernel
theorem dX8_sureOf_10 : decode cX8_sureOf 10 = .ok (.aload_n 0, 1) := by decide +kernel
theorem dX8_sureOf_11 : decode cX8_sureOf 11 = .ok (.getfield 54, 3) := by decide +kernel
theorem dX8_sureOf_14 : decode cX8_sureOf 14 = .ok (.iload_n 3, 1) := by decide +kernel
theorem dX8_sureOf_15 : decode cX8_sureOf 15 = .ok (.baload, 1) := by decide +kernel
theorem dX8_sureOf_16 : decode cX8_sureOf 16 = .ok (.ifCond .eq 56, 3) := by decide +kernel
theorem dX8_sureOf_19 : decode cX8_sureOf 19 = .ok (.iload 4, 2) := by decide +kernel
theorem dX8_sureOf_21 : decode cX8_sureOf 21 = .ok (.bipush 8, 2) := by decide +kernel
theorem dX8_sureOf_23 : decode cX8_sureOf 23 = .ok (.if_icmp .ge 49, 3) := by decide +kernel
theorem dX8_sureOf_26 : decode cX8_sureOf 26 = .ok (.aload_n 0, 1) := by decide +kernel
theorem dX8_sureOf_27 : decode cX8_sureOf 27 = .ok (.getfield 57, 3) := by decide +kernel
theorem dX8_sureOf_30 : decode cX8_sureOf 30 = .ok (.iload_n 3, 1) := by decide +kernel
theorem dX8_sureOf_31 : decode cX8_sureOf 31 = .ok (.laload, 1) := by decide +kernel
theorem dX8_sureOf_32 : decode cX8_sureOf 32 = .ok (.iload 4, 2) := by decide +kernel
theorem dX8_sureOf_34 : decode cX8_sureOf 34 = .ok (.invokestatic 200, 3) := by decide +kernel
theorem dX8_sureOf_37 : decode cX8_sureOf 37 = .ok (.lmul, 1) := by decide +kernel
theorem dX8_sureOf_38 : decode cX8_sureOf 38 = .ok (.lconst 1, 1) := by decide +kernel
theorem dX8_sureOf_39 : decode cX8_sureOf 39 = .ok (.iload_n 2, 1) := by decide +kernel
theorem dX8_sureOf_40 : decode cX8_sureOf 40 = .ok (.lshl, 1) := by decide +kernel
theorem dX8_sureOf_41 : decode cX8_sureOf 41 = .ok (.invokestatic 110, 3) := by decide +kernel
theorem dX8_sureOf_44 : decode cX8_sureOf 44 = .ok (.aload_n 0, 1) := by decide +kernel
theorem dX8_sureOf_45 : decode cX8_sureOf 45 = .ok (.getfield 60, 3) := by decide +kernel
theorem dX8_sureOf_48 : decode cX8_sureOf 48 = .ok (.iload_n 3, 1) := by decide +kernel
theorem dX8_sureOf_49 : decode cX8_sureOf 49 = .ok (.laload, 1) := by decide +kernel
theorem dX8_sureOf_50 : decode cX8_sureOf 50 = .ok (.iload 4, 2) := by decide +kernel
theorem dX8_sureOf_52 : decode cX8_sureOf 52 = .ok (.invokestatic 200, 3) := by decide +kernel
theorem dX8_sureOf_55 : decode cX8_sureOf 55 = .ok (.lmul, 1) := by decide +kernel
theorem dX8_sureOf_56 : decode cX8_sureOf 56 = .ok (.lconst 1, 1) := by decide +kernel
theorem dX8_sureOf_57 : decode cX8_sureOf 57 = .ok (.iload_n 2, 1) := by decide +kernel
theorem dX8_sureOf_58 : decode cX8_sureOf 58 = .ok (.lshl, 1) := by decide +kernel
theorem dX8_sureOf_59 : decode cX8_sureOf 59 = .ok (.invokestatic 110, 3) := by decide +kernel
theorem dX8_sureOf_62 : decode cX8_sureOf 62 = .ok (.lcmp, 1) := by decide +kernel
theorem dX8_sureOf_63 : decode cX8_sureOf 63 = .ok (.ifCond .ne 9, 3) := by decide +kernel
theorem dX8_sureOf_66 : decode cX8_sureOf 66 = .ok (.iinc 4 1, 3) := by decide +kernel
theorem dX8_sureOf_69 : decode cX8_sureOf 69 = .ok (.goto (-59), 3) := by decide +kernel
theorem dX8_sureOf_72 : decode cX8_sureOf 72 = .ok (.iload 4, 2) := by decide +kernel
theorem dX8_sureOf_74 : decode cX8_sureOf 74 = .ok (.iconst 1, 1) := by decide +kernel
theorem dX8_sureOf_75 : decode cX8_sureOf 75 = .ok (.isub, 1) := by decide +kernel
theorem dX8_sureOf_76 : decode cX8_sureOf 76 = .ok (.ireturn, 1) := by decide +kernel
set_option maxRecDepth 20000 in
theorem ggX8_decimals_X8_isProgram : GoodIn wsX8_decimals wsX8_isProgram := goodIn_r _ [5, 6, 7, 8, 4, 9, 32, 33, 34, 35, 36, 37, 38, 39, 40, 41, 42, 43, 44, 45, 46, 47, 48, 49, 50, 51, 52, 53, 54, 55, 56, 57, 58, 59] (by decide +kernel) (by decide +kernel)
set_option maxRecDepth 20000 in
theorem gX8_decimals_X8_isProgram : GoodIn wsX8_decimals (wsV RX8 170 RX8 yX8_isProgram wsX8_isProgram) := goodIn_app (goodIn_of _ (by decide +kernel)) ggX8_decimals_X8_isProgram
set_option maxRecDepth 20000 in
theorem ggX8_decimals_X8_isPlace : GoodIn wsX8_decimals wsX8_isPlace := goodIn_r _ [12, 7, 8, 4, 9] (by decide +kernel) (by decide +kernel)
set_option maxRecDepth 20000 in
theorem gX8_decimals_X8_isPlace : GoodIn wsX8_decimals (va_wsS RX8 184 yX8_isPlace wsX8_isPlace) := goodIn_app (goodIn_of _ (by decide +kernel)) ggX8_decimals_X8_isPlace
set_option maxRecDepth 20000 in
theorem ggX8_decimals_X8_holds : GoodIn wsX8_decimals wsX8_holds := goodIn_r _ [16, 17, 32, 33, 34, 35, 36, 37, 38, 39, 40, 41, 42, 43, 44, 45, 46, 47, 48, 49, 50, 51, 52, 53, 54, 55, 56, 57, 58, 59] (by decide +kernel) (by decide +kernel)
set_option maxRecDepth 20000 in
theorem gX8_decimals_X8_holds : GoodIn wsX8_decimals (wsV RX8 162 RX8 yX8_holds wsX8_holds) := goodIn_app (goodIn_of _ (by decide +kernel)) ggX8_decimals_X8_holds
set_option maxRecDepth 20000 in
theorem ggX8_decimals_X8_sureOf : GoodIn wsX8_decimals wsX8_sureOf := goodIn_r _ [21, 22, 23, 24, 25, 26, 4, 27, 28, 29, 30, 31, 32, 33, 34, 35, 36, 37, 38, 39, 40, 41, 42, 43, 44, 45, 46, 47, 48, 49, 50, 51, 52, 53, 54, 55, 56, 57, 58, 59] (by decide +kernel) (by decide +kernel)
set_option maxRecDepth 20000 in
theorem gX8_decimals_X8_sureOf : GoodIn wsX8_decimals (wsV RX8 204 RX8 yX8_sureOf wsX8_sureOf) := goodIn_app (goodIn_of _ (by decide +kernel)) ggX8_decimals_X8_sureOf
theorem dX8_decimals_0 : decode cX8_decimals 0 = .ok (.aload_n 0, 1) := by decide +kernel
theorem dX8_decimals_1 : decode cX8_decimals 1 = .ok (.aload_n 0, 1) := by decide +kernel
theorem dX8_decimals_2 : decode cX8_decimals 2 = .ok (.iload_n 1, 1) := by decide +kernel
theorem dX8_decimals_3 : decode cX8_decimals 3 = .ok (.invokevirtual 170, 3) := by decide +kernel
theorem dX8_decimals_6 : decode cX8_decimals 6 = .ok (.ifCond .ne 7, 3) := by decide +kernel
theorem dX8_decimals_9 : decode cX8_decimals 9 = .ok (.iconst 1, 1) := by decide +kernel
theorem dX8_decimals_10 : decode cX8_decimals 10 = .ok (.goto 15, 3) := by decide +kernel
theorem dX8_decimals_13 : decode cX8_decimals 13 = .ok (.iload_n 2, 1) := by decide +kernel
theorem dX8_decimals_14 : decode cX8_decimals 14 = .ok (.invokestatic 184, 3) := by decide +kernel
theorem dX8_decimals_17 : decode cX8_decimals 17 = .ok (.ifCond .eq 7, 3) := by decide +kernel
theorem dX8_decimals_20 : decode cX8_decimals 20 = .ok (.iconst 0, 1) := by decide +kernel
theorem dX8_decimals_21 : decode cX8_decimals 21 = .ok (.goto 4, 3) := by decide +kernel
theorem dX8_decimals_24 : decode cX8_decimals 24 = .ok (.iconst 2, 1) := by decide +kernel
theorem dX8_decimals_25 : decode cX8_decimals 25 = .ok (.invokevirtual 162, 3) := by decide +kernel
theorem dX8_decimals_28 : decode cX8_decimals 28 = .ok (.ifCond .eq 12, 3) := by decide +kernel
theorem dX8_decimals_31 : decode cX8_decimals 31 = .ok (.aload_n 0, 1) := by decide +kernel
theorem dX8_decimals_32 : decode cX8_decimals 32 = .ok (.iload_n 1, 1) := by decide +kernel
theorem dX8_decimals_33 : decode cX8_decimals 33 = .ok (.iload_n 2, 1) := by decide +kernel
theorem dX8_decimals_34 : decode cX8_decimals 34 = .ok (.invokevirtual 204, 3) := by decide +kernel
theorem dX8_decimals_37 : decode cX8_decimals 37 = .ok (.goto 4, 3) := by decide +kernel
theorem dX8_decimals_40 : decode cX8_decimals 40 = .ok (.iconst 0, 1) := by decide +kernel
theorem dX8_decimals_41 : decode cX8_decimals 41 = .ok (.ireturn, 1) := by decide +kernel
set_option maxRecDepth 20000 in
theorem ggX8_decimal_X8_isProgram : GoodIn wsX8_decimal wsX8_isProgram := goodIn_r _ [7, 8, 9, 10, 6, 11, 32, 33, 34, 35, 36, 37, 38, 39, 40, 41, 42, 43, 44, 45, 46, 47, 48, 49, 50, 51, 52, 53, 54, 55, 56, 57, 58, 59] (by decide +kernel) (by decide +kernel)
set_option maxRecDepth 20000 in
theorem gX8_decimal_X8_isProgram : GoodIn wsX8_decimal (wsV RX8 170 RX8 yX8_isProgram wsX8_isProgram) := goodIn_app (goodIn_of _ (by decide +kernel)) ggX8_decimal_X8_isProgram
set_option maxRecDepth 20000 in
theorem ggX8_decimal_X8_isPlace : GoodIn wsX8_decimal wsX8_isPlace := goodIn_r _ [14, 9, 10, 6, 11] (by decide +kernel) (by decide +kernel)
set_option maxRecDepth 20000 in
theorem gX8_decimal_X8_isPlace : GoodIn wsX8_decimal (va_wsS RX8 184 yX8_isPlace wsX8_isPlace) := goodIn_app (goodIn_of _ (by decide +kernel)) ggX8_decimal_X8_isPlace
set_option maxRecDepth 20000 in
theorem ggX8_decimal_X8_in : GoodIn wsX8_decimal wsX8_in := goodIn_r _ [11] (by decide +kernel) (by decide +kernel)
set_option maxRecDepth 20000 in
theorem gX8_decimal_X8_in : GoodIn wsX8_decimal (va_wsS RX8 88 yX8_in wsX8_in) := goodIn_app (goodIn_of _ (by decide +kernel)) ggX8_decimal_X8_in
set_option maxRecDepth 20000 in
theorem ggX8_decimal_X8_sureOf : GoodIn wsX8_decimal wsX8_sureOf := goodIn_r _ [18, 19, 1, 20, 21, 22, 6, 23, 2, 24, 25, 26, 32, 33, 34, 35, 36, 37, 38, 39, 40, 41, 42, 43, 44, 45, 46, 47, 48, 49, 50, 51, 52, 53, 54, 55, 56, 57, 58, 59] (by decide +kernel) (by decide +kernel)
set_option maxRecDepth 20000 in
theorem gX8_decimal_X8_sureOf : GoodIn wsX8_decimal (wsV RX8 204 RX8 yX8_sureOf wsX8_sureOf) := goodIn_app (goodIn_of _ (by decide +kernel)) ggX8_decimal_X8_sureOf
set_option maxRecDepth 20000 in
theorem ggX8_decimal_X8_holds : GoodIn wsX8_decimal wsX8_holds := goodIn_r _ [30, 31, 32, 33, 34, 35, 36, 37, 38, 39, 40, 41, 42, 43, 44, 45, 46, 47, 48, 49, 50, 51, 52, 53, 54, 55, 56, 57, 58, 59] (by decide +kernel) (by decide +kernel)
set_option maxRecDepth 20000 in
theorem gX8_decimal_X8_holds : GoodIn wsX8_decimal (wsV RX8 162 RX8 yX8_holds wsX8_holds) := goodIn_app (goodIn_of _ (by decide +kernel)) ggX8_decimal_X8_holds
set_option maxRecDepth 20000 in
theorem ggX8_decimal_X8_tens : GoodIn wsX8_decimal wsX8_tens := goodIn_r _ [23, 2] (by decide +kernel) (by decide +kernel)
set_option maxRecDepth 20000 in
theorem gX8_decimal_X8_tens : GoodIn wsX8_decimal (va_wsS RX8 200 yX8_tens wsX8_tens) := goodIn_app (goodIn_of _ (by decide +kernel)) ggX8_decimal_X8_tens
set_option maxRecDepth 20000 in
theorem ggX8_decimal_X8_cut : GoodIn wsX8_decimal wsX8_cut := goodIn_r _ [26] (by decide +kernel) (by decide +kernel)
set_option maxRecDepth 20000 in
theorem gX8_decimal_X8_cut : GoodIn wsX8_decimal (va_wsS RX8 110 yX8_cut wsX8_cut) := goodIn_app (goodIn_of _ (by decide +kernel)) ggX8_decimal_X8_cut
theorem dX8_decimal_0 : decode cX8_decimal 0 = .ok (.aload_n 0, 1) := by decide +kernel
theorem dX8_decimal_1 : decode cX8_decimal 1 = .ok (.iload_n 1, 1) := by decide +kernel
theorem dX8_decimal_2 : decode cX8_decimal 2 = .ok (.invokevirtual 170, 3) := by decide +kernel
theorem dX8_decimal_5 : decode cX8_decimal 5 = .ok (.istore 4, 2) := by decide +kernel
theorem dX8_decimal_7 : decode cX8_decimal 7 = .ok (.iload 4, 2) := by decide +kernel
theorem dX8_decimal_9 : decode cX8_decimal 9 = .ok (.ifCond .eq 24, 3) := by decide +kernel
theorem dX8_decimal_12 : decode cX8_decimal 12 = .ok (.iload_n 2, 1) := by decide +kernel
theorem dX8_decimal_13 : decode cX8_decimal 13 = .ok (.invokestatic 184, 3) := by decide +kernel
theorem dX8_decimal_16 : decode cX8_decimal 16 = .ok (.ifCond .eq 17, 3) := by decide +kernel
theorem dX8_decimal_19 : decode cX8_decimal 19 = .ok (.iload_n 3, 1) := by decide +kernel
theorem dX8_decimal_20 : decode cX8_decimal 20 = .ok (.iconst 0, 1) := by decide +kernel
theorem dX8_decimal_21 : decode cX8_decimal 21 = .ok (.bipush 7, 2) := by decide +kernel
theorem dX8_decimal_23 : decode cX8_decimal 23 = .ok (.invokestatic 88, 3) := by decide +kernel
theorem dX8_decimal_26 : decode cX8_decimal 26 = .ok (.ifCond .eq 7, 3) := by decide +kernel
theorem dX8_decimal_29 : decode cX8_decimal 29 = .ok (.iconst 1, 1) := by decide +kernel
theorem dX8_decimal_30 : decode cX8_decimal 30 = .ok (.goto 4, 3) := by decide +kernel
theorem dX8_decimal_33 : decode cX8_decimal 33 = .ok (.iconst 0, 1) := by decide +kernel
theorem dX8_decimal_34 : decode cX8_decimal 34 = .ok (.istore 5, 2) := by decide +kernel
theorem dX8_decimal_36 : decode cX8_decimal 36 = .ok (.aload_n 0, 1) := by decide +kernel
theorem dX8_decimal_37 : decode cX8_decimal 37 = .ok (.iload 4, 2) := by decide +kernel
theorem dX8_decimal_39 : decode cX8_decimal 39 = .ok (.ifCond .ne 7, 3) := by decide +kernel
theorem dX8_decimal_42 : decode cX8_decimal 42 = .ok (.iconst 1, 1) := by decide +kernel
theorem dX8_decimal_43 : decode cX8_decimal 43 = .ok (.goto 27, 3) := by decide +kernel
theorem dX8_decimal_46 : decode cX8_decimal 46 = .ok (.iload 5, 2) := by decide +kernel
theorem dX8_decimal_48 : decode cX8_decimal 48 = .ok (.ifCond .ne 7, 3) := by decide +kernel
theorem dX8_decimal_51 : decode cX8_decimal 51 = .ok (.iconst 2, 1) := by decide +kernel
theorem dX8_decimal_52 : decode cX8_decimal 52 = .ok (.goto 18, 3) := by decide +kernel
theorem dX8_decimal_55 : decode cX8_decimal 55 = .ok (.aload_n 0, 1) := by decide +kernel
theorem dX8_decimal_56 : decode cX8_decimal 56 = .ok (.iload_n 1, 1) := by decide +kernel
theorem dX8_decimal_57 : decode cX8_decimal 57 = .ok (.iload_n 2, 1) := by decide +kernel
theorem dX8_decimal_58 : decode cX8_decimal 58 = .ok (.invokevirtual 204, 3) := by decide +kernel
theorem dX8_decimal_61 : decode cX8_decimal 61 = .ok (.iload_n 3, 1) := by decide +kernel
theorem dX8_decimal_62 : decode cX8_decimal 62 = .ok (.if_icmp .ge 7, 3) := by decide +kernel
theorem dX8_decimal_65 : decode cX8_decimal 65 = .ok (.iconst 3, 1) := by decide +kernel
theorem dX8_decimal_66 : decode cX8_decimal 66 = .ok (.goto 4, 3) := by decide +kernel
theorem dX8_decimal_69 : decode cX8_decimal 69 = .ok (.iconst 0, 1) := by decide +kernel
theorem dX8_decimal_70 : decode cX8_decimal 70 = .ok (.invokevirtual 162, 3) := by decide +kernel
theorem dX8_decimal_73 : decode cX8_decimal 73 = .ok (.ifCond .ne 5, 3) := by decide +kernel
theorem dX8_decimal_76 : decode cX8_decimal 76 = .ok (.iconst 0, 1) := by decide +kernel
theorem dX8_decimal_77 : decode cX8_decimal 77 = .ok (.ireturn, 1) := by decide +kernel
theorem dX8_decimal_78 : decode cX8_decimal 78 = .ok (.aload_n 0, 1) := by decide +kernel
theorem dX8_decimal_79 : decode cX8_decimal 79 = .ok (.getfield 57, 3) := by decide +kernel
theorem dX8_decimal_82 : decode cX8_decimal 82 = .ok (.bipush 25, 2) := by decide +kernel
theorem dX8_decimal_84 : decode cX8_decimal 84 = .ok (.iload_n 1, 1) := by decide +kernel
theorem dX8_decimal_85 : decode cX8_decimal 85 = .ok (.imul, 1) := by decide +kernel
theorem dX8_decimal_86 : decode cX8_decimal 86 = .ok (.iload_n 2, 1) := by decide +kernel
theorem dX8_decimal_87 : decode cX8_decimal 87 = .ok (.iadd, 1) := by decide +kernel
theorem dX8_decimal_88 : decode cX8_decimal 88 = .ok (.laload, 1) := by decide +kernel
theorem dX8_decimal_89 : decode cX8_decimal 89 = .ok (.iload_n 3, 1) := by decide +kernel
theorem dX8_decimal_90 : decode cX8_decimal 90 = .ok (.invokestatic 200, 3) := by decide +kernel
theorem dX8_decimal_93 : decode cX8_decimal 93 = .ok (.lmul, 1) := by decide +kernel
theorem dX8_decimal_94 : decode cX8_decimal 94 = .ok (.lconst 1, 1) := by decide +kernel
theorem dX8_decimal_95 : decode cX8_decimal 95 = .ok (.iload_n 2, 1) := by decide +kernel
theorem dX8_decimal_96 : decode cX8_decimal 96 = .ok (.lshl, 1) := by decide +kernel
theorem dX8_decimal_97 : decode cX8_decimal 97 = .ok (.invokestatic 110, 3) := by decide +kernel
theorem dX8_decimal_100 : decode cX8_decimal 100 = .ok (.lstore 6, 2) := by decide +kernel
theorem dX8_decimal_102 : decode cX8_decimal 102 = .ok (.iload_n 3, 1) := by decide +kernel
theorem dX8_decimal_103 : decode cX8_decimal 103 = .ok (.ifCond .ne 8, 3) := by decide +kernel
theorem dX8_decimal_106 : decode cX8_decimal 106 = .ok (.lload 6, 2) := by decide +kernel
theorem dX8_decimal_108 : decode cX8_decimal 108 = .ok (.goto 18, 3) := by decide +kernel
theorem dX8_decimal_111 : decode cX8_decimal 111 = .ok (.lload 6, 2) := by decide +kernel
theorem dX8_decimal_113 : decode cX8_decimal 113 = .ok (.ldc2_w 198, 3) := by decide +kernel
theorem dX8_decimal_116 : decode cX8_decimal 116 = .ok (.lload 6, 2) := by decide +kernel
theorem dX8_decimal_118 : decode cX8_decimal 118 = .ok (.ldc2_w 198, 3) := by decide +kernel
theorem dX8_decimal_121 : decode cX8_decimal 121 = .ok (.invokestatic 110, 3) := by decide +kernel
theorem dX8_decimal_124 : decode cX8_decimal 124 = .ok (.lmul, 1) := by decide +kernel
theorem dX8_decimal_125 : decode cX8_decimal 125 = .ok (.lsub, 1) := by decide +kernel
theorem dX8_decimal_126 : decode cX8_decimal 126 = .ok (.l2i, 1) := by decide +kernel
theorem dX8_decimal_127 : decode cX8_decimal 127 = .ok (.ireturn, 1) := by decide +kernel
set_option maxRecDepth 20000 in
theorem ggX8_quotient_X8_isProgram : GoodIn wsX8_quotient wsX8_isProgram := goodIn_r _ [8, 9, 10, 11, 7, 12, 24, 25, 26, 27, 28, 29, 30, 31, 32, 33, 34, 35, 36, 37, 38, 39, 40, 41, 42, 43, 44, 45, 46, 47, 48, 49, 50, 51] (by decide +kernel) (by decide +kernel)
set_option maxRecDepth 20000 in
theorem gX8_quotient_X8_isProgram : GoodIn wsX8_quotient (wsV RX8 170 RX8 yX8_isProgram wsX8_isProgram) := goodIn_app (goodIn_of _ (by decide +kernel)) ggX8_quotient_X8_isProgram
set_option maxRecDepth 20000 in
theorem ggX8_quotient_X8_isPlace : GoodIn wsX8_quotient wsX8_isPlace := goodIn_r _ [15, 10, 11, 7, 12] (by decide +kernel) (by decide +kernel)
set_option maxRecDepth 20000 in
theorem gX8_quotient_X8_isPlace : GoodIn wsX8_quotient (va_wsS RX8 184 yX8_isPlace wsX8_isPlace) := goodIn_app (goodIn_of _ (by decide +kernel)) ggX8_quotient_X8_isPlace
set_option maxRecDepth 20000 in
theorem ggX8_quotient_X8_in : GoodIn wsX8_quotient wsX8_in := goodIn_r _ [12] (by decide +kernel) (by decide +kernel)
set_option maxRecDepth 20000 in
theorem gX8_quotient_X8_in : GoodIn wsX8_quotient (va_wsS RX8 88 yX8_in wsX8_in) := goodIn_app (goodIn_of _ (by decide +kernel)) ggX8_quotient_X8_in
set_option maxRecDepth 20000 in
theorem ggX8_quotient_X8_holds : GoodIn wsX8_quotient wsX8_holds := goodIn_r _ [19, 20, 24, 25, 26, 27, 28, 29, 30, 31, 32, 33, 34, 35, 36, 37, 38, 39, 40, 41, 42, 43, 44, 45, 46, 47, 48, 49, 50, 51] (by decide +kernel) (by decide +kernel)
set_option maxRecDepth 20000 in
theorem gX8_quotient_X8_holds : GoodIn wsX8_quotient (wsV RX8 162 RX8 yX8_holds wsX8_holds) := goodIn_app (goodIn_of _ (by decide +kernel)) ggX8_quotient_X8_holds
set_option maxRecDepth 20000 in
theorem ggX8_quotient_X8_cut : GoodIn wsX8_quotient wsX8_cut := goodIn_r _ [23] (by decide +kernel) (by decide +kernel)
set_option maxRecDepth 20000 in
theorem gX8_quotient_X8_cut : GoodIn wsX8_quotient (va_wsS RX8 110 yX8_cut wsX8_cut) := goodIn_app (goodIn_of _ (by decide +kernel)) ggX8_quotient_X8_cut
theorem dX8_quotient_0 : decode cX8_quotient 0 = .ok (.aload_n 0, 1) := by decide +kernel
theorem dX8_quotient_1 : decode cX8_quotient 1 = .ok (.iload_n 1, 1) := by decide +kernel
theorem dX8_quotient_2 : decode cX8_quotient 2 = .ok (.invokevirtual 170, 3) := by decide +kernel
theorem dX8_quotient_5 : decode cX8_quotient 5 = .ok (.istore 4, 2) := by decide +kernel
theorem dX8_quotient_7 : decode cX8_quotient 7 = .ok (.iload 4, 2) := by decide +kernel
theorem dX8_quotient_9 : decode cX8_quotient 9 = .ok (.ifCond .eq 24, 3) := by decide +kernel
theorem dX8_quotient_12 : decode cX8_quotient 12 = .ok (.iload_n 2, 1) := by decide +kernel
theorem dX8_quotient_13 : decode cX8_quotient 13 = .ok (.invokestatic 184, 3) := by decide +kernel
theorem dX8_quotient_16 : decode cX8_quotient 16 = .ok (.ifCond .eq 17, 3) := by decide +kernel
theorem dX8_quotient_19 : decode cX8_quotient 19 = .ok (.iload_n 3, 1) := by decide +kernel
theorem dX8_quotient_20 : decode cX8_quotient 20 = .ok (.iconst 0, 1) := by decide +kernel
theorem dX8_quotient_21 : decode cX8_quotient 21 = .ok (.bipush 24, 2) := by decide +kernel
theorem dX8_quotient_23 : decode cX8_quotient 23 = .ok (.invokestatic 88, 3) := by decide +kernel
theorem dX8_quotient_26 : decode cX8_quotient 26 = .ok (.ifCond .eq 7, 3) := by decide +kernel
theorem dX8_quotient_29 : decode cX8_quotient 29 = .ok (.iconst 1, 1) := by decide +kernel
theorem dX8_quotient_30 : decode cX8_quotient 30 = .ok (.goto 4, 3) := by decide +kernel
theorem dX8_quotient_33 : decode cX8_quotient 33 = .ok (.iconst 0, 1) := by decide +kernel
theorem dX8_quotient_34 : decode cX8_quotient 34 = .ok (.istore 5, 2) := by decide +kernel
theorem dX8_quotient_36 : decode cX8_quotient 36 = .ok (.aload_n 0, 1) := by decide +kernel
theorem dX8_quotient_37 : decode cX8_quotient 37 = .ok (.iload 4, 2) := by decide +kernel
theorem dX8_quotient_39 : decode cX8_quotient 39 = .ok (.ifCond .ne 7, 3) := by decide +kernel
theorem dX8_quotient_42 : decode cX8_quotient 42 = .ok (.iconst 1, 1) := by decide +kernel
theorem dX8_quotient_43 : decode cX8_quotient 43 = .ok (.goto 31, 3) := by decide +kernel
theorem dX8_quotient_46 : decode cX8_quotient 46 = .ok (.iload 5, 2) := by decide +kernel
theorem dX8_quotient_48 : decode cX8_quotient 48 = .ok (.ifCond .ne 7, 3) := by decide +kernel
theorem dX8_quotient_51 : decode cX8_quotient 51 = .ok (.iconst 2, 1) := by decide +kernel
theorem dX8_quotient_52 : decode cX8_quotient 52 = .ok (.goto 22, 3) := by decide +kernel
theorem dX8_quotient_55 : decode cX8_quotient 55 = .ok (.aload_n 0, 1) := by decide +kernel
theorem dX8_quotient_56 : decode cX8_quotient 56 = .ok (.getfield 54, 3) := by decide +kernel
theorem dX8_quotient_59 : decode cX8_quotient 59 = .ok (.bipush 25, 2) := by decide +kernel
theorem dX8_quotient_61 : decode cX8_quotient 61 = .ok (.iload_n 1, 1) := by decide +kernel
theorem dX8_quotient_62 : decode cX8_quotient 62 = .ok (.imul, 1) := by decide +kernel
theorem dX8_quotient_63 : decode cX8_quotient 63 = .ok (.iload_n 2, 1) := by decide +kernel
theorem dX8_quotient_64 : decode cX8_quotient 64 = .ok (.iadd, 1) := by decide +kernel
theorem dX8_quotient_65 : decode cX8_quotient 65 = .ok (.baload, 1) := by decide +kernel
theorem dX8_quotient_66 : decode cX8_quotient 66 = .ok (.ifCond .eq 7, 3) := by decide +kernel
theorem dX8_quotient_69 : decode cX8_quotient 69 = .ok (.iconst 0, 1) := by decide +kernel
theorem dX8_quotient_70 : decode cX8_quotient 70 = .ok (.goto 4, 3) := by decide +kernel
theorem dX8_quotient_73 : decode cX8_quotient 73 = .ok (.iconst 3, 1) := by decide +kernel
theorem dX8_quotient_74 : decode cX8_quotient 74 = .ok (.invokevirtual 162, 3) := by decide +kernel
theorem dX8_quotient_77 : decode cX8_quotient 77 = .ok (.ifCond .ne 5, 3) := by decide +kernel
theorem dX8_quotient_80 : decode cX8_quotient 80 = .ok (.iconst 0, 1) := by decide +kernel
theorem dX8_quotient_81 : decode cX8_quotient 81 = .ok (.ireturn, 1) := by decide +kernel
theorem dX8_quotient_82 : decode cX8_quotient 82 = .ok (.aload_n 0, 1) := by decide +kernel
theorem dX8_quotient_83 : decode cX8_quotient 83 = .ok (.getfield 57, 3) := by decide +kernel
theorem dX8_quotient_86 : decode cX8_quotient 86 = .ok (.bipush 25, 2) := by decide +kernel
theorem dX8_quotient_88 : decode cX8_quotient 88 = .ok (.iload_n 1, 1) := by decide +kernel
theorem dX8_quotient_89 : decode cX8_quotient 89 = .ok (.imul, 1) := by decide +kernel
theorem dX8_quotient_90 : decode cX8_quotient 90 = .ok (.iload_n 2, 1) := by decide +kernel
theorem dX8_quotient_91 : decode cX8_quotient 91 = .ok (.iadd, 1) := by decide +kernel
theorem dX8_quotient_92 : decode cX8_quotient 92 = .ok (.laload, 1) := by decide +kernel
theorem dX8_quotient_93 : decode cX8_quotient 93 = .ok (.lstore 6, 2) := by decide +kernel
theorem dX8_quotient_95 : decode cX8_quotient 95 = .ok (.lconst 1, 1) := by decide +kernel
theorem dX8_quotient_96 : decode cX8_quotient 96 = .ok (.iload_n 2, 1) := by decide +kernel
theorem dX8_quotient_97 : decode cX8_quotient 97 = .ok (.lshl, 1) := by decide +kernel
theorem dX8_quotient_98 : decode cX8_quotient 98 = .ok (.lstore 8, 2) := by decide +kernel
theorem dX8_quotient_100 : decode cX8_quotient 100 = .ok (.aload_n 0, 1) := by decide +kernel
theorem dX8_quotient_101 : decode cX8_quotient 101 = .ok (.getfield 60, 3) := by decide +kernel
theorem dX8_quotient_104 : decode cX8_quotient 104 = .ok (.bipush 25, 2) := by decide +kernel
theorem dX8_quotient_106 : decode cX8_quotient 106 = .ok (.iload_n 1, 1) := by decide +kernel
theorem dX8_quotient_107 : decode cX8_quotient 107 = .ok (.imul, 1) := by decide +kernel
theorem dX8_quotient_108 : decode cX8_quotient 108 = .ok (.iload_n 2, 1) := by decide +kernel
theorem dX8_quotient_109 : decode cX8_quotient 109 = .ok (.iadd, 1) := by decide +kernel
theorem dX8_quotient_110 : decode cX8_quotient 110 = .ok (.laload, 1) := by decide +kernel
theorem dX8_quotient_111 : decode cX8_quotient 111 = .ok (.lstore 10, 2) := by decide +kernel
theorem dX8_quotient_113 : decode cX8_quotient 113 = .ok (.lload 8, 2) := by decide +kernel
theorem dX8_quotient_115 : decode cX8_quotient 115 = .ok (.lstore 12, 2) := by decide +kernel
theorem dX8_quotient_117 : decode cX8_quotient 117 = .ok (.lload 6, 2) := by decide +kernel
theorem dX8_quotient_119 : decode cX8_quotient 119 = .ok (.lload 8, 2) := by decide +kernel
theorem dX8_quotient_121 : decode cX8_quotient 121 = .ok (.invokestatic 110, 3) := by decide +kernel
theorem dX8_quotient_124 : decode cX8_quotient 124 = .ok (.lstore 14, 2) := by decide +kernel
theorem dX8_quotient_126 : decode cX8_quotient 126 = .ok (.lload 14, 2) := by decide +kernel
theorem dX8_quotient_128 : decode cX8_quotient 128 = .ok (.lload 10, 2) := by decide +kernel
theorem dX8_quotient_130 : decode cX8_quotient 130 = .ok (.lload 12, 2) := by decide +kernel
theorem dX8_quotient_132 : decode cX8_quotient 132 = .ok (.invokestatic 110, 3) := by decide +kernel
theorem dX8_quotient_135 : decode cX8_quotient 135 = .ok (.lcmp, 1) := by decide +kernel
theorem dX8_quotient_136 : decode cX8_quotient 136 = .ok (.ifCond .ne 7, 3) := by decide +kernel
theorem dX8_quotient_139 : decode cX8_quotient 139 = .ok (.iconst 1, 1) := by decide +kernel
theorem dX8_quotient_140 : decode cX8_quotient 140 = .ok (.goto 4, 3) := by decide +kernel
theorem dX8_quotient_143 : decode cX8_quotient 143 = .ok (.iconst 0, 1) := by decide +kernel
theorem dX8_quotient_144 : decode cX8_quotient 144 = .ok (.istore 16, 2) := by decide +kernel
theorem dX8_quotient_146 : decode cX8_quotient 146 = .ok (.iconst 0, 1) := by decide +kernel
theorem dX8_quotient_147 : decode cX8_quotient 147 = .ok (.istore 17, 2) := by decide +kernel
theorem dX8_quotient_149 : decode cX8_quotient 149 = .ok (.iload 17, 2) := by decide +kernel
theorem dX8_quotient_151 : decode cX8_quotient 151 = .ok (.iload_n 3, 1) := by decide +kernel
theorem dX8_quotient_152 : decode cX8_quotient 152 = .ok (.if_icmp .ge 105, 3) := by decide +kernel
theorem dX8_quotient_155 : decode cX8_quotient 155 = .ok (.iload 16, 2) := by decide +kernel
theorem dX8_quotient_157 : decode cX8_quotient 157 = .ok (.ifCond .eq 100, 3) := by decide +kernel
theorem dX8_quotient_160 : decode cX8_quotient 160 = .ok (.lload 6, 2) := by decide +kernel
theorem dX8_quotient_162 : decode cX8_quotient 162 = .ok (.lload 14, 2) := by decide +kernel
theorem dX8_quotient_164 : decode cX8_quotient 164 = .ok (.lload 8, 2) := by decide +kernel
theorem dX8_quotient_166 : decode cX8_quotient 166 = .ok (.lmul, 1) := by decide +kernel
theorem dX8_quotient_167 : decode cX8_quotient 167 = .ok (.lsub, 1) := by decide +kernel
theorem dX8_quotient_168 : decode cX8_quotient 168 = .ok (.lstore 18, 2) := by decide +kernel
theorem dX8_quotient_170 : decode cX8_quotient 170 = .ok (.lload 10, 2) := by decide +kernel
theorem dX8_quotient_172 : decode cX8_quotient 172 = .ok (.lload 14, 2) := by decide +kernel
theorem dX8_quotient_174 : decode cX8_quotient 174 = .ok (.lload 12, 2) := by decide +kernel
theorem dX8_quotient_176 : decode cX8_quotient 176 = .ok (.lmul, 1) := by decide +kernel
theorem dX8_quotient_177 : decode cX8_quotient 177 = .ok (.lsub, 1) := by decide +kernel
theorem dX8_quotient_178 : decode cX8_quotient 178 = .ok (.lstore 20, 2) := by decide +kernel
theorem dX8_quotient_180 : decode cX8_quotient 180 = .ok (.lload 18, 2) := by decide +kernel
theorem dX8_quotient_182 : decode cX8_quotient 182 = .ok (.lconst 0, 1) := by decide +kernel
theorem dX8_quotient_183 : decode cX8_quotient 183 = .ok (.lcmp, 1) := by decide +kernel
theorem dX8_quotient_184 : decode cX8_quotient 184 = .ok (.ifCond .le 14, 3) := by decide +kernel
theorem dX8_quotient_187 : decode cX8_quotient 187 = .ok (.lload 20, 2) := by decide +kernel
theorem dX8_quotient_189 : decode cX8_quotient 189 = .ok (.lconst 0, 1) := by decide +kernel
theorem dX8_quotient_190 : decode cX8_quotient 190 = .ok (.lcmp, 1) := by decide +kernel
theorem dX8_quotient_191 : decode cX8_quotient 191 = .ok (.ifCond .le 7, 3) := by decide +kernel
theorem dX8_quotient_194 : decode cX8_quotient 194 = .ok (.iconst 1, 1) := by decide +kernel
theorem dX8_quotient_195 : decode cX8_quotient 195 = .ok (.goto 4, 3) := by decide +kernel
theorem dX8_quotient_198 : decode cX8_quotient 198 = .ok (.iconst 0, 1) := by decide +kernel
theorem dX8_quotient_199 : decode cX8_quotient 199 = .ok (.istore 16, 2) := by decide +kernel
theorem dX8_quotient_201 : decode cX8_quotient 201 = .ok (.iload 16, 2) := by decide +kernel
theorem dX8_quotient_203 : decode cX8_quotient 203 = .ok (.ifCond .eq 48, 3) := by decide +kernel
theorem dX8_quotient_206 : decode cX8_quotient 206 = .ok (.lload 8, 2) := by decide +kernel
theorem dX8_quotient_208 : decode cX8_quotient 208 = .ok (.lstore 6, 2) := by decide +kernel
theorem dX8_quotient_210 : decode cX8_quotient 210 = .ok (.lload 18, 2) := by decide +kernel
theorem dX8_quotient_212 : decode cX8_quotient 212 = .ok (.lstore 8, 2) := by decide +kernel
theorem dX8_quotient_214 : decode cX8_quotient 214 = .ok (.lload 12, 2) := by decide +kernel
theorem dX8_quotient_216 : decode cX8_quotient 216 = .ok (.lstore 10, 2) := by decide +kernel
theorem dX8_quotient_218 : decode cX8_quotient 218 = .ok (.lload 20, 2) := by decide +kernel
theorem dX8_quotient_220 : decode cX8_quotient 220 = .ok (.lstore 12, 2) := by decide +kernel
theorem dX8_quotient_222 : decode cX8_quotient 222 = .ok (.lload 6, 2) := by decide +kernel
theorem dX8_quotient_224 : decode cX8_quotient 224 = .ok (.lload 8, 2) := by decide +kernel
theorem dX8_quotient_226 : decode cX8_quotient 226 = .ok (.invokestatic 110, 3) := by decide +kernel
theorem dX8_quotient_229 : decode cX8_quotient 229 = .ok (.lstore 14, 2) := by decide +kernel
theorem dX8_quotient_231 : decode cX8_quotient 231 = .ok (.lload 14, 2) := by decide +kernel
theorem dX8_quotient_233 : decode cX8_quotient 233 = .ok (.lload 10, 2) := by decide +kernel
theorem dX8_quotient_235 : decode cX8_quotient 235 = .ok (.lload 12, 2) := by decide +kernel
theorem dX8_quotient_237 : decode cX8_quotient 237 = .ok (.invokestatic 110, 3) := by decide +kernel
theorem dX8_quotient_240 : decode cX8_quotient 240 = .ok (.lcmp, 1) := by decide +kernel
theorem dX8_quotient_241 : decode cX8_quotient 241 = .ok (.ifCond .ne 7, 3) := by decide +kernel
theorem dX8_quotient_244 : decode cX8_quotient 244 = .ok (.iconst 1, 1) := by decide +kernel
theorem dX8_quotient_245 : decode cX8_quotient 245 = .ok (.goto 4, 3) := by decide +kernel
theorem dX8_quotient_248 : decode cX8_quotient 248 = .ok (.iconst 0, 1) := by decide +kernel
theorem dX8_quotient_249 : decode cX8_quotient 249 = .ok (.istore 16, 2) := by decide +kernel
theorem dX8_quotient_251 : decode cX8_quotient 251 = .ok (.iinc 17 1, 3) := by decide +kernel
theorem dX8_quotient_254 : decode cX8_quotient 254 = .ok (.goto (-105), 3) := by decide +kernel
theorem dX8_quotient_257 : decode cX8_quotient 257 = .ok (.aload_n 0, 1) := by decide +kernel
theorem dX8_quotient_258 : decode cX8_quotient 258 = .ok (.iload 16, 2) := by decide +kernel
theorem dX8_quotient_260 : decode cX8_quotient 260 = .ok (.ifCond .eq 7, 3) := by decide +kernel
theorem dX8_quotient_263 : decode cX8_quotient 263 = .ok (.iconst 0, 1) := by decide +kernel
theorem dX8_quotient_264 : decode cX8_quotient 264 = .ok (.goto 4, 3) := by decide +kernel
theorem dX8_quotient_267 : decode cX8_quotient 267 = .ok (.iconst 3, 1) := by decide +kernel
theorem dX8_quotient_268 : decode cX8_quotient 268 = .ok (.invokevirtual 162, 3) := by decide +kernel
theorem dX8_quotient_271 : decode cX8_quotient 271 = .ok (.ifCond .eq 9, 3) := by decide +kernel
theorem dX8_quotient_274 : decode cX8_quotient 274 = .ok (.lload 14, 2) := by decide +kernel
theorem dX8_quotient_276 : decode cX8_quotient 276 = .ok (.l2i, 1) := by decide +kernel
theorem dX8_quotient_277 : decode cX8_quotient 277 = .ok (.goto 4, 3) := by decide +kernel
theorem dX8_quotient_280 : decode cX8_quotient 280 = .ok (.iconst 0, 1) := by decide +kernel
theorem dX8_quotient_281 : decode cX8_quotient 281 = .ok (.ireturn, 1) := by decide +kernel
theorem dX8_digitAt_0 : decode cX8_digitAt 0 = .ok (.bipush 25, 2) := by decide +kernel
theorem dX8_digitAt_2 : decode cX8_digitAt 2 = .ok (.iload_n 1, 1) := by decide +kernel
theorem dX8_digitAt_3 : decode cX8_digitAt 3 = .ok (.imul, 1) := by decide +kernel
theorem dX8_digitAt_4 : decode cX8_digitAt 4 = .ok (.iload_n 2, 1) := by decide +kernel
theorem dX8_digitAt_5 : decode cX8_digitAt 5 = .ok (.iadd, 1) := by decide +kernel
theorem dX8_digitAt_6 : decode cX8_digitAt 6 = .ok (.istore_n 3, 1) := by decide +kernel
theorem dX8_digitAt_7 : decode cX8_digitAt 7 = .ok (.aload_n 0, 1) := by decide +kernel
theorem dX8_digitAt_8 : decode cX8_digitAt 8 = .ok (.getfield 72, 3) := by decide +kernel
theorem dX8_digitAt_11 : decode cX8_digitAt 11 = .ok (.iload_n 1, 1) := by decide +kernel
theorem dX8_digitAt_12 : decode cX8_digitAt 12 = .ok (.iaload, 1) := by decide +kernel
theorem dX8_digitAt_13 : decode cX8_digitAt 13 = .ok (.istore 4, 2) := by decide +kernel
theorem dX8_digitAt_15 : decode cX8_digitAt 15 = .ok (.aload_n 0, 1) := by decide +kernel
theorem dX8_digitAt_16 : decode cX8_digitAt 16 = .ok (.getfield 54, 3) := by decide +kernel
theorem dX8_digitAt_19 : decode cX8_digitAt 19 = .ok (.iload_n 3, 1) := by decide +kernel
theorem dX8_digitAt_20 : decode cX8_digitAt 20 = .ok (.baload, 1) := by decide +kernel
theorem dX8_digitAt_21 : decode cX8_digitAt 21 = .ok (.ifCond .ne 5, 3) := by decide +kernel
theorem dX8_digitAt_24 : decode cX8_digitAt 24 = .ok (.iconst 2, 1) := by decide +kernel
theorem dX8_digitAt_25 : decode cX8_digitAt 25 = .ok (.ireturn, 1) := by decide +kernel
theorem dX8_digitAt_26 : decode cX8_digitAt 26 = .ok (.lconst 1, 1) := by decide +kernel
theorem dX8_digitAt_27 : decode cX8_digitAt 27 = .ok (.iload_n 2, 1) := by decide +kernel
theorem dX8_digitAt_28 : decode cX8_digitAt 28 = .ok (.iload 4, 2) := by decide +kernel
theorem dX8_digitAt_30 : decode cX8_digitAt 30 = .ok (.isub, 1) := by decide +kernel
theorem dX8_digitAt_31 : decode cX8_digitAt 31 = .ok (.lshl, 1) := by decide +kernel
theorem dX8_digitAt_32 : decode cX8_digitAt 32 = .ok (.lstore 5, 2) := by decide +kernel
theorem dX8_digitAt_34 : decode cX8_digitAt 34 = .ok (.aload_n 0, 1) := by decide +kernel
theorem dX8_digitAt_35 : decode cX8_digitAt 35 = .ok (.getfield 57, 3) := by decide +kernel
theorem dX8_digitAt_38 : decode cX8_digitAt 38 = .ok (.iload_n 3, 1) := by decide +kernel
theorem dX8_digitAt_39 : decode cX8_digitAt 39 = .ok (.laload, 1) := by decide +kernel
theorem dX8_digitAt_40 : decode cX8_digitAt 40 = .ok (.aload_n 0, 1) := by decide +kernel
theorem dX8_digitAt_41 : decode cX8_digitAt 41 = .ok (.getfield 75, 3) := by decide +kernel
theorem dX8_digitAt_44 : decode cX8_digitAt 44 = .ok (.iload_n 1, 1) := by decide +kernel
theorem dX8_digitAt_45 : decode cX8_digitAt 45 = .ok (.laload, 1) := by decide +kernel
theorem dX8_digitAt_46 : decode cX8_digitAt 46 = .ok (.lload 5, 2) := by decide +kernel
theorem dX8_digitAt_48 : decode cX8_digitAt 48 = .ok (.lmul, 1) := by decide +kernel
theorem dX8_digitAt_49 : decode cX8_digitAt 49 = .ok (.lsub, 1) := by decide +kernel
theorem dX8_digitAt_50 : decode cX8_digitAt 50 = .ok (.lstore 7, 2) := by decide +kernel
theorem dX8_digitAt_52 : decode cX8_digitAt 52 = .ok (.aload_n 0, 1) := by decide +kernel
theorem dX8_digitAt_53 : decode cX8_digitAt 53 = .ok (.getfield 60, 3) := by decide +kernel
theorem dX8_digitAt_56 : decode cX8_digitAt 56 = .ok (.iload_n 3, 1) := by decide +kernel
theorem dX8_digitAt_57 : decode cX8_digitAt 57 = .ok (.laload, 1) := by decide +kernel
theorem dX8_digitAt_58 : decode cX8_digitAt 58 = .ok (.aload_n 0, 1) := by decide +kernel
theorem dX8_digitAt_59 : decode cX8_digitAt 59 = .ok (.getfield 75, 3) := by decide +kernel
theorem dX8_digitAt_62 : decode cX8_digitAt 62 = .ok (.iload_n 1, 1) := by decide +kernel
theorem dX8_digitAt_63 : decode cX8_digitAt 63 = .ok (.laload, 1) := by decide +kernel
theorem dX8_digitAt_64 : decode cX8_digitAt 64 = .ok (.lload 5, 2) := by decide +kernel
theorem dX8_digitAt_66 : decode cX8_digitAt 66 = .ok (.lmul, 1) := by decide +kernel
theorem dX8_digitAt_67 : decode cX8_digitAt 67 = .ok (.lsub, 1) := by decide +kernel
theorem dX8_digitAt_68 : decode cX8_digitAt 68 = .ok (.lstore 9, 2) := by decide +kernel
theorem dX8_digitAt_70 : decode cX8_digitAt 70 = .ok (.iload 4, 2) := by decide +kernel
theorem dX8_digitAt_72 : decode cX8_digitAt 72 = .ok (.ifCond .ne 22, 3) := by decide +kernel
theorem dX8_digitAt_75 : decode cX8_digitAt 75 = .ok (.lload 7, 2) := by decide +kernel
theorem dX8_digitAt_77 : decode cX8_digitAt 77 = .ok (.lload 5, 2) := by decide +kernel
theorem dX8_digitAt_79 : decode cX8_digitAt 79 = .ok (.lneg, 1) := by decide +kernel
theorem dX8_digitAt_80 : decode cX8_digitAt 80 = .ok (.lcmp, 1) := by decide +kernel
theorem dX8_digitAt_81 : decode cX8_digitAt 81 = .ok (.ifCond .lt 11, 3) := by decide +kernel
theorem dX8_digitAt_84 : decode cX8_digitAt 84 = .ok (.lload 9, 2) := by decide +kernel
theorem dX8_digitAt_86 : decode cX8_digitAt 86 = .ok (.lload 5, 2) := by decide +kernel
theorem dX8_digitAt_88 : decode cX8_digitAt 88 = .ok (.lcmp, 1) := by decide +kernel
theorem dX8_digitAt_89 : decode cX8_digitAt 89 = .ok (.ifCond .le 5, 3) := by decide +kernel
theorem dX8_digitAt_92 : decode cX8_digitAt 92 = .ok (.iconst 2, 1) := by decide +kernel
theorem dX8_digitAt_93 : decode cX8_digitAt 93 = .ok (.ireturn, 1) := by decide +kernel
theorem dX8_digitAt_94 : decode cX8_digitAt 94 = .ok (.ldc2_w 137, 3) := by decide +kernel
theorem dX8_digitAt_97 : decode cX8_digitAt 97 = .ok (.lload 7, 2) := by decide +kernel
theorem dX8_digitAt_99 : decode cX8_digitAt 99 = .ok (.lmul, 1) := by decide +kernel
theorem dX8_digitAt_100 : decode cX8_digitAt 100 = .ok (.lload 5, 2) := by decide +kernel
theorem dX8_digitAt_102 : decode cX8_digitAt 102 = .ok (.lneg, 1) := by decide +kernel
theorem dX8_digitAt_103 : decode cX8_digitAt 103 = .ok (.lcmp, 1) := by decide +kernel
theorem dX8_digitAt_104 : decode cX8_digitAt 104 = .ok (.ifCond .lt 19, 3) := by decide +kernel
theorem dX8_digitAt_107 : decode cX8_digitAt 107 = .ok (.ldc2_w 137, 3) := by decide +kernel
theorem dX8_digitAt_110 : decode cX8_digitAt 110 = .ok (.lload 9, 2) := by decide +kernel
theorem dX8_digitAt_112 : decode cX8_digitAt 112 = .ok (.lmul, 1) := by decide +kernel
theorem dX8_digitAt_113 : decode cX8_digitAt 113 = .ok (.lload 5, 2) := by decide +kernel
theorem dX8_digitAt_115 : decode cX8_digitAt 115 = .ok (.lcmp, 1) := by decide +kernel
theorem dX8_digitAt_116 : decode cX8_digitAt 116 = .ok (.ifCond .gt 7, 3) := by decide +kernel
theorem dX8_digitAt_119 : decode cX8_digitAt 119 = .ok (.iconst 0, 1) := by decide +kernel
theorem dX8_digitAt_120 : decode cX8_digitAt 120 = .ok (.goto 26, 3) := by decide +kernel
theorem dX8_digitAt_123 : decode cX8_digitAt 123 = .ok (.lload 7, 2) := by decide +kernel
theorem dX8_digitAt_125 : decode cX8_digitAt 125 = .ok (.lconst 0, 1) := by decide +kernel
theorem dX8_digitAt_126 : decode cX8_digitAt 126 = .ok (.lcmp, 1) := by decide +kernel
theorem dX8_digitAt_127 : decode cX8_digitAt 127 = .ok (.ifCond .lt 7, 3) := by decide +kernel
theorem dX8_digitAt_130 : decode cX8_digitAt 130 = .ok (.iconst 1, 1) := by decide +kernel
theorem dX8_digitAt_131 : decode cX8_digitAt 131 = .ok (.goto 15, 3) := by decide +kernel
theorem dX8_digitAt_134 : decode cX8_digitAt 134 = .ok (.lload 9, 2) := by decide +kernel
theorem dX8_digitAt_136 : decode cX8_digitAt 136 = .ok (.lconst 0, 1) := by decide +kernel
theorem dX8_digitAt_137 : decode cX8_digitAt 137 = .ok (.lcmp, 1) := by decide +kernel
theorem dX8_digitAt_138 : decode cX8_digitAt 138 = .ok (.ifCond .gt 7, 3) := by decide +kernel
theorem dX8_digitAt_141 : decode cX8_digitAt 141 = .ok (.iconst (-1), 1) := by decide +kernel
theorem dX8_digitAt_142 : decode cX8_digitAt 142 = .ok (.goto 4, 3) := by decide +kernel
theorem dX8_digitAt_145 : decode cX8_digitAt 145 = .ok (.iconst 2, 1) := by decide +kernel
theorem dX8_digitAt_146 : decode cX8_digitAt 146 = .ok (.ireturn, 1) := by decide +kernel
set_option maxRecDepth 20000 in
theorem ggX8_next_X8_isProgram : GoodIn wsX8_next wsX8_isProgram := goodIn_r _ [8, 9, 10, 11, 7, 12, 25, 26, 27, 28, 29, 30, 31, 32, 33, 34, 35, 36, 37, 38, 39, 40, 41, 42, 43, 44, 45, 46, 47, 48, 49, 50, 51, 52] (by decide +kernel) (by decide +kernel)
set_option maxRecDepth 20000 in
theorem gX8_next_X8_isProgram : GoodIn wsX8_next (wsV RX8 170 RX8 yX8_isProgram wsX8_isProgram) := goodIn_app (goodIn_of _ (by decide +kernel)) ggX8_next_X8_isProgram
set_option maxRecDepth 20000 in
theorem ggX8_next_X8_digitAt : GoodIn wsX8_next wsX8_digitAt := goodIn_r _ [16, 1, 17, 18, 2, 19, 3, 25, 26, 27, 28, 29, 30, 31, 32, 33, 34, 35, 36, 37, 38, 39, 40, 41, 42, 43, 44, 45, 46, 47, 48, 49, 50, 51, 52] (by decide +kernel) (by decide +kernel)
set_option maxRecDepth 20000 in
theorem gX8_next_X8_digitAt : GoodIn wsX8_next (wsV RX8 207 RX8 yX8_digitAt wsX8_digitAt) := goodIn_app (goodIn_of _ (by decide +kernel)) ggX8_next_X8_digitAt
set_option maxRecDepth 20000 in
theorem ggX8_next_X8_holds : GoodIn wsX8_next wsX8_holds := goodIn_r _ [23, 24, 25, 26, 27, 28, 29, 30, 31, 32, 33, 34, 35, 36, 37, 38, 39, 40, 41, 42, 43, 44, 45, 46, 47, 48, 49, 50, 51, 52] (by decide +kernel) (by decide +kernel)
set_option maxRecDepth 20000 in
theorem gX8_next_X8_holds : GoodIn wsX8_next (wsV RX8 162 RX8 yX8_holds wsX8_holds) := goodIn_app (goodIn_of _ (by decide +kernel)) ggX8_next_X8_holds
theorem dX8_next_0 : decode cX8_next 0 = .ok (.aload_n 0, 1) := by decide +kernel
theorem dX8_next_1 : decode cX8_next 1 = .ok (.iload_n 1, 1) := by decide +kernel
theorem dX8_next_2 : decode cX8_next 2 = .ok (.invokevirtual 170, 3) := by decide +kernel
theorem dX8_next_5 : decode cX8_next 5 = .ok (.istore_n 2, 1) := by decide +kernel
theorem dX8_next_6 : decode cX8_next 6 = .ok (.iconst 2, 1) := by decide +kernel
theorem dX8_next_7 : decode cX8_next 7 = .ok (.istore_n 3, 1) := by decide +kernel
theorem dX8_next_8 : decode cX8_next 8 = .ok (.iload_n 2, 1) := by decide +kernel
theorem dX8_next_9 : decode cX8_next 9 = .ok (.ifCond .eq 14, 3) := by decide +kernel
theorem dX8_next_12 : decode cX8_next 12 = .ok (.aload_n 0, 1) := by decide +kernel
theorem dX8_next_13 : decode cX8_next 13 = .ok (.getfield 72, 3) := by decide +kernel
theorem dX8_next_16 : decode cX8_next 16 = .ok (.iload_n 1, 1) := by decide +kernel
theorem dX8_next_17 : decode cX8_next 17 = .ok (.iaload, 1) := by decide +kernel
theorem dX8_next_18 : decode cX8_next 18 = .ok (.iconst 1, 1) := by decide +kernel
theorem dX8_next_19 : decode cX8_next 19 = .ok (.iadd, 1) := by decide +kernel
theorem dX8_next_20 : decode cX8_next 20 = .ok (.goto 5, 3) := by decide +kernel
theorem dX8_next_23 : decode cX8_next 23 = .ok (.bipush 25, 2) := by decide +kernel
theorem dX8_next_25 : decode cX8_next 25 = .ok (.istore 4, 2) := by decide +kernel
theorem dX8_next_27 : decode cX8_next 27 = .ok (.iload 4, 2) := by decide +kernel
theorem dX8_next_29 : decode cX8_next 29 = .ok (.bipush 25, 2) := by decide +kernel
theorem dX8_next_31 : decode cX8_next 31 = .ok (.if_icmp .ge 22, 3) := by decide +kernel
theorem dX8_next_34 : decode cX8_next 34 = .ok (.iload_n 3, 1) := by decide +kernel
theorem dX8_next_35 : decode cX8_next 35 = .ok (.iconst 2, 1) := by decide +kernel
theorem dX8_next_36 : decode cX8_next 36 = .ok (.if_icmp .ne 17, 3) := by decide +kernel
theorem dX8_next_39 : decode cX8_next 39 = .ok (.aload_n 0, 1) := by decide +kernel
theorem dX8_next_40 : decode cX8_next 40 = .ok (.iload_n 1, 1) := by decide +kernel
theorem dX8_next_41 : decode cX8_next 41 = .ok (.iload 4, 2) := by decide +kernel
theorem dX8_next_43 : decode cX8_next 43 = .ok (.invokevirtual 207, 3) := by decide +kernel
theorem dX8_next_46 : decode cX8_next 46 = .ok (.istore_n 3, 1) := by decide +kernel
theorem dX8_next_47 : decode cX8_next 47 = .ok (.iinc 4 1, 3) := by decide +kernel
theorem dX8_next_50 : decode cX8_next 50 = .ok (.goto (-23), 3) := by decide +kernel
theorem dX8_next_53 : decode cX8_next 53 = .ok (.aload_n 0, 1) := by decide +kernel
theorem dX8_next_54 : decode cX8_next 54 = .ok (.iload_n 2, 1) := by decide +kernel
theorem dX8_next_55 : decode cX8_next 55 = .ok (.ifCond .ne 7, 3) := by decide +kernel
theorem dX8_next_58 : decode cX8_next 58 = .ok (.iconst 1, 1) := by decide +kernel
theorem dX8_next_59 : decode cX8_next 59 = .ok (.goto 13, 3) := by decide +kernel
theorem dX8_next_62 : decode cX8_next 62 = .ok (.iload_n 3, 1) := by decide +kernel
theorem dX8_next_63 : decode cX8_next 63 = .ok (.iconst 2, 1) := by decide +kernel
theorem dX8_next_64 : decode cX8_next 64 = .ok (.if_icmp .ne 7, 3) := by decide +kernel
theorem dX8_next_67 : decode cX8_next 67 = .ok (.iconst 2, 1) := by decide +kernel
theorem dX8_next_68 : decode cX8_next 68 = .ok (.goto 4, 3) := by decide +kernel
theorem dX8_next_71 : decode cX8_next 71 = .ok (.iconst 0, 1) := by decide +kernel
theorem dX8_next_72 : decode cX8_next 72 = .ok (.invokevirtual 162, 3) := by decide +kernel
theorem dX8_next_75 : decode cX8_next 75 = .ok (.ifCond .ne 5, 3) := by decide +kernel
theorem dX8_next_78 : decode cX8_next 78 = .ok (.iconst 0, 1) := by decide +kernel
theorem dX8_next_79 : decode cX8_next 79 = .ok (.ireturn, 1) := by decide +kernel
theorem dX8_next_80 : decode cX8_next 80 = .ok (.aload_n 0, 1) := by decide +kernel
theorem dX8_next_81 : decode cX8_next 81 = .ok (.getfield 72, 3) := by decide +kernel
theorem dX8_next_84 : decode cX8_next 84 = .ok (.iload_n 1, 1) := by decide +kernel
theorem dX8_next_85 : decode cX8_next 85 = .ok (.dup2, 1) := by decide +kernel
theorem dX8_next_86 : decode cX8_next 86 = .ok (.iaload, 1) := by decide +kernel
theorem dX8_next_87 : decode cX8_next 87 = .ok (.iconst 1, 1) := by decide +kernel
theorem dX8_next_88 : decode cX8_next 88 = .ok (.iadd, 1) := by decide +kernel
theorem dX8_next_89 : decode cX8_next 89 = .ok (.iastore, 1) := by decide +kernel
theorem dX8_next_90 : decode cX8_next 90 = .ok (.aload_n 0, 1) := by decide +kernel
theorem dX8_next_91 : decode cX8_next 91 = .ok (.getfield 75, 3) := by decide +kernel
theorem dX8_next_94 : decode cX8_next 94 = .ok (.iload_n 1, 1) := by decide +kernel
theorem dX8_next_95 : decode cX8_next 95 = .ok (.ldc2_w 137, 3) := by decide +kernel
theorem dX8_next_98 : decode cX8_next 98 = .ok (.aload_n 0, 1) := by decide +kernel
theorem dX8_next_99 : decode cX8_next 99 = .ok (.getfield 75, 3) := by decide +kernel
theorem dX8_next_102 : decode cX8_next 102 = .ok (.iload_n 1, 1) := by decide +kernel
theorem dX8_next_103 : decode cX8_next 103 = .ok (.laload, 1) := by decide +kernel
theorem dX8_next_104 : decode cX8_next 104 = .ok (.lmul, 1) := by decide +kernel
theorem dX8_next_105 : decode cX8_next 105 = .ok (.iload_n 3, 1) := by decide +kernel
theorem dX8_next_106 : decode cX8_next 106 = .ok (.i2l, 1) := by decide +kernel
theorem dX8_next_107 : decode cX8_next 107 = .ok (.ladd, 1) := by decide +kernel
theorem dX8_next_108 : decode cX8_next 108 = .ok (.lastore, 1) := by decide +kernel
theorem dX8_next_109 : decode cX8_next 109 = .ok (.iload_n 3, 1) := by decide +kernel
theorem dX8_next_110 : decode cX8_next 110 = .ok (.ireturn, 1) := by decide +kernel
set_option maxRecDepth 20000 in
theorem ggX8_emitted_X8_isProgram : GoodIn wsX8_emitted wsX8_isProgram := goodIn_r _ [6, 7, 8, 9, 5, 10, 16, 17, 18, 19, 20, 21, 22, 23, 24, 25, 26, 27, 28, 29, 30, 31, 32, 33, 34, 35, 36, 37, 38, 39, 40, 41, 42, 43] (by decide +kernel) (by decide +kernel)
set_option maxRecDepth 20000 in
theorem gX8_emitted_X8_isProgram : GoodIn wsX8_emitted (wsV RX8 170 RX8 yX8_isProgram wsX8_isProgram) := goodIn_app (goodIn_of _ (by decide +kernel)) ggX8_emitted_X8_isProgram
set_option maxRecDepth 20000 in
theorem ggX8_emitted_X8_holds : GoodIn wsX8_emitted wsX8_holds := goodIn_r _ [14, 15, 16, 17, 18, 19, 20, 21, 22, 23, 24, 25, 26, 27, 28, 29, 30, 31, 32, 33, 34, 35, 36, 37, 38, 39, 40, 41, 42, 43] (by decide +kernel) (by decide +kernel)
set_option maxRecDepth 20000 in
theorem gX8_emitted_X8_holds : GoodIn wsX8_emitted (wsV RX8 162 RX8 yX8_holds wsX8_holds) := goodIn_app (goodIn_of _ (by decide +kernel)) ggX8_emitted_X8_holds
theorem dX8_emitted_0 : decode cX8_emitted 0 = .ok (.aload_n 0, 1) := by decide +kernel
theorem dX8_emitted_1 : decode cX8_emitted 1 = .ok (.aload_n 0, 1) := by decide +kernel
theorem dX8_emitted_2 : decode cX8_emitted 2 = .ok (.iload_n 1, 1) := by decide +kernel
theorem dX8_emitted_3 : decode cX8_emitted 3 = .ok (.invokevirtual 170, 3) := by decide +kernel
theorem dX8_emitted_6 : decode cX8_emitted 6 = .ok (.ifCond .eq 7, 3) := by decide +kernel
theorem dX8_emitted_9 : decode cX8_emitted 9 = .ok (.iconst 0, 1) := by decide +kernel
theorem dX8_emitted_10 : decode cX8_emitted 10 = .ok (.goto 4, 3) := by decide +kernel
theorem dX8_emitted_13 : decode cX8_emitted 13 = .ok (.iconst 1, 1) := by decide +kernel
theorem dX8_emitted_14 : decode cX8_emitted 14 = .ok (.invokevirtual 162, 3) := by decide +kernel
theorem dX8_emitted_17 : decode cX8_emitted 17 = .ok (.ifCond .eq 12, 3) := by decide +kernel
theorem dX8_emitted_20 : decode cX8_emitted 20 = .ok (.aload_n 0, 1) := by decide +kernel
theorem dX8_emitted_21 : decode cX8_emitted 21 = .ok (.getfield 72, 3) := by decide +kernel
theorem dX8_emitted_24 : decode cX8_emitted 24 = .ok (.iload_n 1, 1) := by decide +kernel
theorem dX8_emitted_25 : decode cX8_emitted 25 = .ok (.iaload, 1) := by decide +kernel
theorem dX8_emitted_26 : decode cX8_emitted 26 = .ok (.goto 4, 3) := by decide +kernel
theorem dX8_emitted_29 : decode cX8_emitted 29 = .ok (.iconst 0, 1) := by decide +kernel
theorem dX8_emitted_30 : decode cX8_emitted 30 = .ok (.ireturn, 1) := by decide +kernel
set_option maxRecDepth 20000 in
theorem ggX8_partial_X8_isProgram : GoodIn wsX8_partial wsX8_isProgram := goodIn_r _ [6, 7, 8, 9, 5, 10, 16, 17, 18, 19, 20, 21, 22, 23, 24, 25, 26, 27, 28, 29, 30, 31, 32, 33, 34, 35, 36, 37, 38, 39, 40, 41, 42, 43] (by decide +kernel) (by decide +kernel)
set_option maxRecDepth 20000 in
theorem gX8_partial_X8_isProgram : GoodIn wsX8_partial (wsV RX8 170 RX8 yX8_isProgram wsX8_isProgram) := goodIn_app (goodIn_of _ (by decide +kernel)) ggX8_partial_X8_isProgram
set_option maxRecDepth 20000 in
theorem ggX8_partial_X8_holds : GoodIn wsX8_partial wsX8_holds := goodIn_r _ [14, 15, 16, 17, 18, 19, 20, 21, 22, 23, 24, 25, 26, 27, 28, 29, 30, 31, 32, 33, 34, 35, 36, 37, 38, 39, 40, 41, 42, 43] (by decide +kernel) (by decide +kernel)
set_option maxRecDepth 20000 in
theorem gX8_partial_X8_holds : GoodIn wsX8_partial (wsV RX8 162 RX8 yX8_holds wsX8_holds) := goodIn_app (goodIn_of _ (by decide +kernel)) ggX8_partial_X8_holds
theorem dX8_partial_0 : decode cX8_partial 0 = .ok (.aload_n 0, 1) := by decide +kernel
theorem dX8_partial_1 : decode cX8_partial 1 = .ok (.aload_n 0, 1) := by decide +kernel
theorem dX8_partial_2 : decode cX8_partial 2 = .ok (.iload_n 1, 1) := by decide +kernel
theorem dX8_partial_3 : decode cX8_partial 3 = .ok (.invokevirtual 170, 3) := by decide +kernel
theorem dX8_partial_6 : decode cX8_partial 6 = .ok (.ifCond .eq 7, 3) := by decide +kernel
theorem dX8_partial_9 : decode cX8_partial 9 = .ok (.iconst 0, 1) := by decide +kernel
theorem dX8_partial_10 : decode cX8_partial 10 = .ok (.goto 4, 3) := by decide +kernel
theorem dX8_partial_13 : decode cX8_partial 13 = .ok (.iconst 1, 1) := by decide +kernel
theorem dX8_partial_14 : decode cX8_partial 14 = .ok (.invokevirtual 162, 3) := by decide +kernel
theorem dX8_partial_17 : decode cX8_partial 17 = .ok (.ifCond .eq 12, 3) := by decide +kernel
theorem dX8_partial_20 : decode cX8_partial 20 = .ok (.aload_n 0, 1) := by decide +kernel
theorem dX8_partial_21 : decode cX8_partial 21 = .ok (.getfield 75, 3) := by decide +kernel
theorem dX8_partial_24 : decode cX8_partial 24 = .ok (.iload_n 1, 1) := by decide +kernel
theorem dX8_partial_25 : decode cX8_partial 25 = .ok (.laload, 1) := by decide +kernel
theorem dX8_partial_26 : decode cX8_partial 26 = .ok (.goto 4, 3) := by decide +kernel
theorem dX8_partial_29 : decode cX8_partial 29 = .ok (.lconst 0, 1) := by decide +kernel
theorem dX8_partial_30 : decode cX8_partial 30 = .ok (.lreturn, 1) := by decide +kernel
set_option maxRecDepth 20000 in
theorem ggX8_restart_X8_isProgram : GoodIn wsX8_restart wsX8_isProgram := goodIn_r _ [7, 8, 9, 10, 6, 11, 17, 18, 19, 20, 21, 22, 23, 24, 25, 26, 27, 28, 29, 30, 31, 32, 33, 34, 35, 36, 37, 38, 39, 40, 41, 42, 43, 44] (by decide +kernel) (by decide +kernel)
set_option maxRecDepth 20000 in
theorem gX8_restart_X8_isProgram : GoodIn wsX8_restart (wsV RX8 170 RX8 yX8_isProgram wsX8_isProgram) := goodIn_app (goodIn_of _ (by decide +kernel)) ggX8_restart_X8_isProgram
set_option maxRecDepth 20000 in
theorem ggX8_restart_X8_holds : GoodIn wsX8_restart wsX8_holds := goodIn_r _ [15, 16, 17, 18, 19, 20, 21, 22, 23, 24, 25, 26, 27, 28, 29, 30, 31, 32, 33, 34, 35, 36, 37, 38, 39, 40, 41, 42, 43, 44] (by decide +kernel) (by decide +kernel)
set_option maxRecDepth 20000 in
theorem gX8_restart_X8_holds : GoodIn wsX8_restart (wsV RX8 162 RX8 yX8_holds wsX8_holds) := goodIn_app (goodIn_of _ (by decide +kernel)) ggX8_restart_X8_holds
theorem dX8_restart_0 : decode cX8_restart 0 = .ok (.aload_n 0, 1) := by decide +kernel
theorem dX8_restart_1 : decode cX8_restart 1 = .ok (.aload_n 0, 1) := by decide +kernel
theorem dX8_restart_2 : decode cX8_restart 2 = .ok (.iload_n 1, 1) := by decide +kernel
theorem dX8_restart_3 : decode cX8_restart 3 = .ok (.invokevirtual 170, 3) := by decide +kernel
theorem dX8_restart_6 : decode cX8_restart 6 = .ok (.ifCond .eq 7, 3) := by decide +kernel
theorem dX8_restart_9 : decode cX8_restart 9 = .ok (.iconst 0, 1) := by decide +kernel
theorem dX8_restart_10 : decode cX8_restart 10 = .ok (.goto 4, 3) := by decide +kernel
theorem dX8_restart_13 : decode cX8_restart 13 = .ok (.iconst 1, 1) := by decide +kernel
theorem dX8_restart_14 : decode cX8_restart 14 = .ok (.invokevirtual 162, 3) := by decide +kernel
theorem dX8_restart_17 : decode cX8_restart 17 = .ok (.ifCond .ne 5, 3) := by decide +kernel
theorem dX8_restart_20 : decode cX8_restart 20 = .ok (.iconst 0, 1) := by decide +kernel
theorem dX8_restart_21 : decode cX8_restart 21 = .ok (.ireturn, 1) := by decide +kernel
theorem dX8_restart_22 : decode cX8_restart 22 = .ok (.aload_n 0, 1) := by decide +kernel
theorem dX8_restart_23 : decode cX8_restart 23 = .ok (.getfield 72, 3) := by decide +kernel
theorem dX8_restart_26 : decode cX8_restart 26 = .ok (.iload_n 1, 1) := by decide +kernel
theorem dX8_restart_27 : decode cX8_restart 27 = .ok (.iaload, 1) := by decide +kernel
theorem dX8_restart_28 : decode cX8_restart 28 = .ok (.istore_n 2, 1) := by decide +kernel
theorem dX8_restart_29 : decode cX8_restart 29 = .ok (.aload_n 0, 1) := by decide +kernel
theorem dX8_restart_30 : decode cX8_restart 30 = .ok (.getfield 72, 3) := by decide +kernel
theorem dX8_restart_33 : decode cX8_restart 33 = .ok (.iload_n 1, 1) := by decide +kernel
theorem dX8_restart_34 : decode cX8_restart 34 = .ok (.iconst 0, 1) := by decide +kernel
theorem dX8_restart_35 : decode cX8_restart 35 = .ok (.iastore, 1) := by decide +kernel
theorem dX8_restart_36 : decode cX8_restart 36 = .ok (.aload_n 0, 1) := by decide +kernel
theorem dX8_restart_37 : decode cX8_restart 37 = .ok (.getfield 75, 3) := by decide +kernel
theorem dX8_restart_40 : decode cX8_restart 40 = .ok (.iload_n 1, 1) := by decide +kernel
theorem dX8_restart_41 : decode cX8_restart 41 = .ok (.lconst 0, 1) := by decide +kernel
theorem dX8_restart_42 : decode cX8_restart 42 = .ok (.lastore, 1) := by decide +kernel
theorem dX8_restart_43 : decode cX8_restart 43 = .ok (.iload_n 2, 1) := by decide +kernel
theorem dX8_restart_44 : decode cX8_restart 44 = .ok (.ireturn, 1) := by decide +kernel
theorem dX8_count_0 : decode cX8_count 0 = .ok (.aload_n 0, 1) := by decide +kernel
theorem dX8_count_1 : decode cX8_count 1 = .ok (.iconst 0, 1) := by decide +kernel
theorem dX8_count_2 : decode cX8_count 2 = .ok (.putfield 81, 3) := by decide +kernel
theorem dX8_count_5 : decode cX8_count 5 = .ok (.aload_n 0, 1) := by decide +kernel
theorem dX8_count_6 : decode cX8_count 6 = .ok (.getfield 85, 3) := by decide +kernel
theorem dX8_count_9 : decode cX8_count 9 = .ok (.ireturn, 1) := by decide +kernel
set_option maxRecDepth 20000 in
theorem ggX8_needs_X8_isProgram : GoodIn wsX8_needs wsX8_isProgram := goodIn_r _ [9, 1, 10, 11, 8, 12, 18, 19, 20, 21, 22, 23, 24, 25, 26, 27, 28, 29, 30, 31, 32, 33, 34, 35, 36, 37, 38, 39, 40, 41, 42, 43, 44, 45] (by decide +kernel) (by decide +kernel)
set_option maxRecDepth 20000 in
theorem gX8_needs_X8_isProgram : GoodIn wsX8_needs (wsV RX8 170 RX8 yX8_isProgram wsX8_isProgram) := goodIn_app (goodIn_of _ (by decide +kernel)) ggX8_needs_X8_isProgram
set_option maxRecDepth 20000 in
theorem ggX8_needs_X8_holds : GoodIn wsX8_needs wsX8_holds := goodIn_r _ [16, 17, 18, 19, 20, 21, 22, 23, 24, 25, 26, 27, 28, 29, 30, 31, 32, 33, 34, 35, 36, 37, 38, 39, 40, 41, 42, 43, 44, 45] (by decide +kernel) (by decide +kernel)
set_option maxRecDepth 20000 in
theorem gX8_needs_X8_holds : GoodIn wsX8_needs (wsV RX8 162 RX8 yX8_holds wsX8_holds) := goodIn_app (goodIn_of _ (by decide +kernel)) ggX8_needs_X8_holds
theorem dX8_needs_0 : decode cX8_needs 0 = .ok (.aload_n 0, 1) := by decide +kernel
theorem dX8_needs_1 : decode cX8_needs 1 = .ok (.aload_n 0, 1) := by decide +kernel
theorem dX8_needs_2 : decode cX8_needs 2 = .ok (.iload_n 1, 1) := by decide +kernel
theorem dX8_needs_3 : decode cX8_needs 3 = .ok (.invokevirtual 170, 3) := by decide +kernel
theorem dX8_needs_6 : decode cX8_needs 6 = .ok (.ifCond .eq 7, 3) := by decide +kernel
theorem dX8_needs_9 : decode cX8_needs 9 = .ok (.iconst 0, 1) := by decide +kernel
theorem dX8_needs_10 : decode cX8_needs 10 = .ok (.goto 4, 3) := by decide +kernel
theorem dX8_needs_13 : decode cX8_needs 13 = .ok (.iconst 1, 1) := by decide +kernel
theorem dX8_needs_14 : decode cX8_needs 14 = .ok (.invokevirtual 162, 3) := by decide +kernel
theorem dX8_needs_17 : decode cX8_needs 17 = .ok (.ifCond .ne 5, 3) := by decide +kernel
theorem dX8_needs_20 : decode cX8_needs 20 = .ok (.iconst 0, 1) := by decide +kernel
theorem dX8_needs_21 : decode cX8_needs 21 = .ok (.ireturn, 1) := by decide +kernel
theorem dX8_needs_22 : decode cX8_needs 22 = .ok (.iconst 0, 1) := by decide +kernel
theorem dX8_needs_23 : decode cX8_needs 23 = .ok (.istore_n 2, 1) := by decide +kernel
theorem dX8_needs_24 : decode cX8_needs 24 = .ok (.aload_n 0, 1) := by decide +kernel
theorem dX8_needs_25 : decode cX8_needs 25 = .ok (.getfield 85, 3) := by decide +kernel
theorem dX8_needs_28 : decode cX8_needs 28 = .ok (.iconst 1, 1) := by decide +kernel
theorem dX8_needs_29 : decode cX8_needs 29 = .ok (.isub, 1) := by decide +kernel
theorem dX8_needs_30 : decode cX8_needs 30 = .ok (.istore_n 3, 1) := by decide +kernel
theorem dX8_needs_31 : decode cX8_needs 31 = .ok (.iload_n 3, 1) := by decide +kernel
theorem dX8_needs_32 : decode cX8_needs 32 = .ok (.ifCond .lt 114, 3) := by decide +kernel
theorem dX8_needs_35 : decode cX8_needs 35 = .ok (.aload_n 0, 1) := by decide +kernel
theorem dX8_needs_36 : decode cX8_needs 36 = .ok (.getfield 78, 3) := by decide +kernel
theorem dX8_needs_39 : decode cX8_needs 39 = .ok (.iload_n 3, 1) := by decide +kernel
theorem dX8_needs_40 : decode cX8_needs 40 = .ok (.iload_n 3, 1) := by decide +kernel
theorem dX8_needs_41 : decode cX8_needs 41 = .ok (.iload_n 1, 1) := by decide +kernel
theorem dX8_needs_42 : decode cX8_needs 42 = .ok (.if_icmp .ne 7, 3) := by decide +kernel
theorem dX8_needs_45 : decode cX8_needs 45 = .ok (.iconst 1, 1) := by decide +kernel
theorem dX8_needs_46 : decode cX8_needs 46 = .ok (.goto 4, 3) := by decide +kernel
theorem dX8_needs_49 : decode cX8_needs 49 = .ok (.iconst 0, 1) := by decide +kernel
theorem dX8_needs_50 : decode cX8_needs 50 = .ok (.bastore, 1) := by decide +kernel
theorem dX8_needs_51 : decode cX8_needs 51 = .ok (.iload_n 3, 1) := by decide +kernel
theorem dX8_needs_52 : decode cX8_needs 52 = .ok (.iconst 1, 1) := by decide +kernel
theorem dX8_needs_53 : decode cX8_needs 53 = .ok (.iadd, 1) := by decide +kernel
theorem dX8_needs_54 : decode cX8_needs 54 = .ok (.istore 4, 2) := by decide +kernel
theorem dX8_needs_56 : decode cX8_needs 56 = .ok (.iload 4, 2) := by decide +kernel
theorem dX8_needs_58 : decode cX8_needs 58 = .ok (.aload_n 0, 1) := by decide +kernel
theorem dX8_needs_59 : decode cX8_needs 59 = .ok (.getfield 85, 3) := by decide +kernel
theorem dX8_needs_62 : decode cX8_needs 62 = .ok (.if_icmp .ge 61, 3) := by decide +kernel
theorem dX8_needs_65 : decode cX8_needs 65 = .ok (.aload_n 0, 1) := by decide +kernel
theorem dX8_needs_66 : decode cX8_needs 66 = .ok (.getfield 78, 3) := by decide +kernel
theorem dX8_needs_69 : decode cX8_needs 69 = .ok (.iload_n 3, 1) := by decide +kernel
theorem dX8_needs_70 : decode cX8_needs 70 = .ok (.aload_n 0, 1) := by decide +kernel
theorem dX8_needs_71 : decode cX8_needs 71 = .ok (.getfield 78, 3) := by decide +kernel
theorem dX8_needs_74 : decode cX8_needs 74 = .ok (.iload_n 3, 1) := by decide +kernel
theorem dX8_needs_75 : decode cX8_needs 75 = .ok (.baload, 1) := by decide +kernel
theorem dX8_needs_76 : decode cX8_needs 76 = .ok (.ifCond .ne 35, 3) := by decide +kernel
theorem dX8_needs_79 : decode cX8_needs 79 = .ok (.aload_n 0, 1) := by decide +kernel
theorem dX8_needs_80 : decode cX8_needs 80 = .ok (.getfield 78, 3) := by decide +kernel
theorem dX8_needs_83 : decode cX8_needs 83 = .ok (.iload 4, 2) := by decide +kernel
theorem dX8_needs_85 : decode cX8_needs 85 = .ok (.baload, 1) := by decide +kernel
theorem dX8_needs_86 : decode cX8_needs 86 = .ok (.ifCond .eq 29, 3) := by decide +kernel
theorem dX8_needs_89 : decode cX8_needs 89 = .ok (.aload_n 0, 1) := by decide +kernel
theorem dX8_needs_90 : decode cX8_needs 90 = .ok (.getfield 13, 3) := by decide +kernel
theorem dX8_needs_93 : decode cX8_needs 93 = .ok (.iload 4, 2) := by decide +kernel
theorem dX8_needs_95 : decode cX8_needs 95 = .ok (.iaload, 1) := by decide +kernel
theorem dX8_needs_96 : decode cX8_needs 96 = .ok (.iload_n 3, 1) := by decide +kernel
theorem dX8_needs_97 : decode cX8_needs 97 = .ok (.if_icmp .eq 14, 3) := by decide +kernel
theorem dX8_needs_100 : decode cX8_needs 100 = .ok (.aload_n 0, 1) := by decide +kernel
theorem dX8_needs_101 : decode cX8_needs 101 = .ok (.getfield 16, 3) := by decide +kernel
theorem dX8_needs_104 : decode cX8_needs 104 = .ok (.iload 4, 2) := by decide +kernel
theorem dX8_needs_106 : decode cX8_needs 106 = .ok (.iaload, 1) := by decide +kernel
theorem dX8_needs_107 : decode cX8_needs 107 = .ok (.iload_n 3, 1) := by decide +kernel
theorem dX8_needs_108 : decode cX8_needs 108 = .ok (.if_icmp .ne 7, 3) := by decide +kernel
theorem dX8_needs_111 : decode cX8_needs 111 = .ok (.iconst 1, 1) := by decide +kernel
theorem dX8_needs_112 : decode cX8_needs 112 = .ok (.goto 4, 3) := by decide +kernel
theorem dX8_needs_115 : decode cX8_needs 115 = .ok (.iconst 0, 1) := by decide +kernel
theorem dX8_needs_116 : decode cX8_needs 116 = .ok (.bastore, 1) := by decide +kernel
theorem dX8_needs_117 : decode cX8_needs 117 = .ok (.iinc 4 1, 3) := by decide +kernel
theorem dX8_needs_120 : decode cX8_needs 120 = .ok (.goto (-64), 3) := by decide +kernel
theorem dX8_needs_123 : decode cX8_needs 123 = .ok (.iload_n 2, 1) := by decide +kernel
theorem dX8_needs_124 : decode cX8_needs 124 = .ok (.aload_n 0, 1) := by decide +kernel
theorem dX8_needs_125 : decode cX8_needs 125 = .ok (.getfield 78, 3) := by decide +kernel
theorem dX8_needs_128 : decode cX8_needs 128 = .ok (.iload_n 3, 1) := by decide +kernel
theorem dX8_needs_129 : decode cX8_needs 129 = .ok (.baload, 1) := by decide +kernel
theorem dX8_needs_130 : decode cX8_needs 130 = .ok (.ifCond .eq 7, 3) := by decide +kernel
theorem dX8_needs_133 : decode cX8_needs 133 = .ok (.iconst 1, 1) := by decide +kernel
theorem dX8_needs_134 : decode cX8_needs 134 = .ok (.goto 4, 3) := by decide +kernel
theorem dX8_needs_137 : decode cX8_needs 137 = .ok (.iconst 0, 1) := by decide +kernel
theorem dX8_needs_138 : decode cX8_needs 138 = .ok (.iadd, 1) := by decide +kernel
theorem dX8_needs_139 : decode cX8_needs 139 = .ok (.istore_n 2, 1) := by decide +kernel
theorem dX8_needs_140 : decode cX8_needs 140 = .ok (.iinc 3 (-1), 3) := by decide +kernel
theorem dX8_needs_143 : decode cX8_needs 143 = .ok (.goto (-112), 3) := by decide +kernel
theorem dX8_needs_146 : decode cX8_needs 146 = .ok (.iload_n 2, 1) := by decide +kernel
theorem dX8_needs_147 : decode cX8_needs 147 = .ok (.ireturn, 1) := by decide +kernel
theorem dJx29ce0_ordinal_8abf5_0 : decode cJx29ce0_ordinal_8abf5 0 = .ok (.aload_n 0, 1) := by decide +kernel
theorem dJx29ce0_ordinal_8abf5_1 : decode cJx29ce0_ordinal_8abf5 1 = .ok (.getfield 7, 3) := by decide +kernel
theorem dJx29ce0_ordinal_8abf5_4 : decode cJx29ce0_ordinal_8abf5 4 = .ok (.ireturn, 1) := by decide +kernel
theorem dJ13_bitCount_95d88_0 : decode cJ13_bitCount_95d88 0 = .ok (.lload_n 0, 1) := by decide +kernel
theorem dJ13_bitCount_95d88_1 : decode cJ13_bitCount_95d88 1 = .ok (.lload_n 0, 1) := by decide +kernel
theorem dJ13_bitCount_95d88_2 : decode cJ13_bitCount_95d88 2 = .ok (.iconst 1, 1) := by decide +kernel
theorem dJ13_bitCount_95d88_3 : decode cJ13_bitCount_95d88 3 = .ok (.lushr, 1) := by decide +kernel
theorem dJ13_bitCount_95d88_4 : decode cJ13_bitCount_95d88 4 = .ok (.ldc2_w 314, 3) := by decide +kernel
theorem dJ13_bitCount_95d88_7 : decode cJ13_bitCount_95d88 7 = .ok (.land, 1) := by decide +kernel
theorem dJ13_bitCount_95d88_8 : decode cJ13_bitCount_95d88 8 = .ok (.lsub, 1) := by decide +kernel
theorem dJ13_bitCount_95d88_9 : decode cJ13_bitCount_95d88 9 = .ok (.lstore_n 0, 1) := by decide +kernel
theorem dJ13_bitCount_95d88_10 : decode cJ13_bitCount_95d88 10 = .ok (.lload_n 0, 1) := by decide +kernel
theorem dJ13_bitCount_95d88_11 : decode cJ13_bitCount_95d88 11 = .ok (.ldc2_w 316, 3) := by decide +kernel
theorem dJ13_bitCount_95d88_14 : decode cJ13_bitCount_95d88 14 = .ok (.land, 1) := by decide +kernel
theorem dJ13_bitCount_95d88_15 : decode cJ13_bitCount_95d88 15 = .ok (.lload_n 0, 1) := by decide +kernel
theorem dJ13_bitCount_95d88_16 : decode cJ13_bitCount_95d88 16 = .ok (.iconst 2, 1) := by decide +kernel
theorem dJ13_bitCount_95d88_17 : decode cJ13_bitCount_95d88 17 = .ok (.lushr, 1) := by decide +kernel
theorem dJ13_bitCount_95d88_18 : decode cJ13_bitCount_95d88 18 = .ok (.ldc2_w 316, 3) := by decide +kernel
theorem dJ13_bitCount_95d88_21 : decode cJ13_bitCount_95d88 21 = .ok (.land, 1) := by decide +kernel
theorem dJ13_bitCount_95d88_22 : decode cJ13_bitCount_95d88 22 = .ok (.ladd, 1) := by decide +kernel
theorem dJ13_bitCount_95d88_23 : decode cJ13_bitCount_95d88 23 = .ok (.lstore_n 0, 1) := by decide +kernel
theorem dJ13_bitCount_95d88_24 : decode cJ13_bitCount_95d88 24 = .ok (.lload_n 0, 1) := by decide +kernel
theorem dJ13_bitCount_95d88_25 : decode cJ13_bitCount_95d88 25 = .ok (.lload_n 0, 1) := by decide +kernel
theorem dJ13_bitCount_95d88_26 : decode cJ13_bitCount_95d88 26 = .ok (.iconst 4, 1) := by decide +kernel
theorem dJ13_bitCount_95d88_27 : decode cJ13_bitCount_95d88 27 = .ok (.lushr, 1) := by decide +kernel
theorem dJ13_bitCount_95d88_28 : decode cJ13_bitCount_95d88 28 = .ok (.ladd, 1) := by decide +kernel
theorem dJ13_bitCount_95d88_29 : decode cJ13_bitCount_95d88 29 = .ok (.ldc2_w 318, 3) := by decide +kernel
theorem dJ13_bitCount_95d88_32 : decode cJ13_bitCount_95d88 32 = .ok (.land, 1) := by decide +kernel
theorem dJ13_bitCount_95d88_33 : decode cJ13_bitCount_95d88 33 = .ok (.lstore_n 0, 1) := by decide +kernel
theorem dJ13_bitCount_95d88_34 : decode cJ13_bitCount_95d88 34 = .ok (.lload_n 0, 1) := by decide +kernel
theorem dJ13_bitCount_95d88_35 : decode cJ13_bitCount_95d88 35 = .ok (.lload_n 0, 1) := by decide +kernel
theorem dJ13_bitCount_95d88_36 : decode cJ13_bitCount_95d88 36 = .ok (.bipush 8, 2) := by decide +kernel
theorem dJ13_bitCount_95d88_38 : decode cJ13_bitCount_95d88 38 = .ok (.lushr, 1) := by decide +kernel
theorem dJ13_bitCount_95d88_39 : decode cJ13_bitCount_95d88 39 = .ok (.ladd, 1) := by decide +kernel
theorem dJ13_bitCount_95d88_40 : decode cJ13_bitCount_95d88 40 = .ok (.lstore_n 0, 1) := by decide +kernel
theorem dJ13_bitCount_95d88_41 : decode cJ13_bitCount_95d88 41 = .ok (.lload_n 0, 1) := by decide +kernel
theorem dJ13_bitCount_95d88_42 : decode cJ13_bitCount_95d88 42 = .ok (.lload_n 0, 1) := by decide +kernel
theorem dJ13_bitCount_95d88_43 : decode cJ13_bitCount_95d88 43 = .ok (.bipush 16, 2) := by decide +kernel
theorem dJ13_bitCount_95d88_45 : decode cJ13_bitCount_95d88 45 = .ok (.lushr, 1) := by decide +kernel
theorem dJ13_bitCount_95d88_46 : decode cJ13_bitCount_95d88 46 = .ok (.ladd, 1) := by decide +kernel
theorem dJ13_bitCount_95d88_47 : decode cJ13_bitCount_95d88 47 = .ok (.lstore_n 0, 1) := by decide +kernel
theorem dJ13_bitCount_95d88_48 : decode cJ13_bitCount_95d88 48 = .ok (.lload_n 0, 1) := by decide +kernel
theorem dJ13_bitCount_95d88_49 : decode cJ13_bitCount_95d88 49 = .ok (.lload_n 0, 1) := by decide +kernel
theorem dJ13_bitCount_95d88_50 : decode cJ13_bitCount_95d88 50 = .ok (.bipush 32, 2) := by decide +kernel
theorem dJ13_bitCount_95d88_52 : decode cJ13_bitCount_95d88 52 = .ok (.lushr, 1) := by decide +kernel
theorem dJ13_bitCount_95d88_53 : decode cJ13_bitCount_95d88 53 = .ok (.ladd, 1) := by decide +kernel
theorem dJ13_bitCount_95d88_54 : decode cJ13_bitCount_95d88 54 = .ok (.lstore_n 0, 1) := by decide +kernel
theorem dJ13_bitCount_95d88_55 : decode cJ13_bitCount_95d88 55 = .ok (.lload_n 0, 1) := by decide +kernel
theorem dJ13_bitCount_95d88_56 : decode cJ13_bitCount_95d88 56 = .ok (.l2i, 1) := by decide +kernel
theorem dJ13_bitCount_95d88_57 : decode cJ13_bitCount_95d88 57 = .ok (.bipush 127, 2) := by decide +kernel
theorem dJ13_bitCount_95d88_59 : decode cJ13_bitCount_95d88 59 = .ok (.iand, 1) := by decide +kernel
theorem dJ13_bitCount_95d88_60 : decode cJ13_bitCount_95d88 60 = .ok (.ireturn, 1) := by decide +kernel
theorem dJ13_signum_95d88_0 : decode cJ13_signum_95d88 0 = .ok (.lload_n 0, 1) := by decide +kernel
theorem dJ13_signum_95d88_1 : decode cJ13_signum_95d88 1 = .ok (.bipush 63, 2) := by decide +kernel
theorem dJ13_signum_95d88_3 : decode cJ13_signum_95d88 3 = .ok (.lshr, 1) := by decide +kernel
theorem dJ13_signum_95d88_4 : decode cJ13_signum_95d88 4 = .ok (.lload_n 0, 1) := by decide +kernel
theorem dJ13_signum_95d88_5 : decode cJ13_signum_95d88 5 = .ok (.lneg, 1) := by decide +kernel
theorem dJ13_signum_95d88_6 : decode cJ13_signum_95d88 6 = .ok (.bipush 63, 2) := by decide +kernel
theorem dJ13_signum_95d88_8 : decode cJ13_signum_95d88 8 = .ok (.lushr, 1) := by decide +kernel
theorem dJ13_signum_95d88_9 : decode cJ13_signum_95d88 9 = .ok (.lor, 1) := by decide +kernel
theorem dJ13_signum_95d88_10 : decode cJ13_signum_95d88 10 = .ok (.l2i, 1) := by decide +kernel
theorem dJ13_signum_95d88_11 : decode cJ13_signum_95d88 11 = .ok (.ireturn, 1) := by decide +kernel
theorem dJ9_floorDiv_f86c9_0 : decode cJ9_floorDiv_f86c9 0 = .ok (.lload_n 0, 1) := by decide +kernel
theorem dJ9_floorDiv_f86c9_1 : decode cJ9_floorDiv_f86c9 1 = .ok (.lload_n 2, 1) := by decide +kernel
theorem dJ9_floorDiv_f86c9_2 : decode cJ9_floorDiv_f86c9 2 = .ok (.ldiv, 1) := by decide +kernel
theorem dJ9_floorDiv_f86c9_3 : decode cJ9_floorDiv_f86c9 3 = .ok (.lstore 4, 2) := by decide +kernel
theorem dJ9_floorDiv_f86c9_5 : decode cJ9_floorDiv_f86c9 5 = .ok (.lload_n 0, 1) := by decide +kernel
theorem dJ9_floorDiv_f86c9_6 : decode cJ9_floorDiv_f86c9 6 = .ok (.lload_n 2, 1) := by decide +kernel
theorem dJ9_floorDiv_f86c9_7 : decode cJ9_floorDiv_f86c9 7 = .ok (.lxor, 1) := by decide +kernel
theorem dJ9_floorDiv_f86c9_8 : decode cJ9_floorDiv_f86c9 8 = .ok (.lconst 0, 1) := by decide +kernel
theorem dJ9_floorDiv_f86c9_9 : decode cJ9_floorDiv_f86c9 9 = .ok (.lcmp, 1) := by decide +kernel
theorem dJ9_floorDiv_f86c9_10 : decode cJ9_floorDiv_f86c9 10 = .ok (.ifCond .ge 17, 3) := by decide +kernel
theorem dJ9_floorDiv_f86c9_13 : decode cJ9_floorDiv_f86c9 13 = .ok (.lload 4, 2) := by decide +kernel
theorem dJ9_floorDiv_f86c9_15 : decode cJ9_floorDiv_f86c9 15 = .ok (.lload_n 2, 1) := by decide +kernel
theorem dJ9_floorDiv_f86c9_16 : decode cJ9_floorDiv_f86c9 16 = .ok (.lmul, 1) := by decide +kernel
theorem dJ9_floorDiv_f86c9_17 : decode cJ9_floorDiv_f86c9 17 = .ok (.lload_n 0, 1) := by decide +kernel
theorem dJ9_floorDiv_f86c9_18 : decode cJ9_floorDiv_f86c9 18 = .ok (.lcmp, 1) := by decide +kernel
theorem dJ9_floorDiv_f86c9_19 : decode cJ9_floorDiv_f86c9 19 = .ok (.ifCond .eq 8, 3) := by decide +kernel
theorem dJ9_floorDiv_f86c9_22 : decode cJ9_floorDiv_f86c9 22 = .ok (.lload 4, 2) := by decide +kernel
theorem dJ9_floorDiv_f86c9_24 : decode cJ9_floorDiv_f86c9 24 = .ok (.lconst 1, 1) := by decide +kernel
theorem dJ9_floorDiv_f86c9_25 : decode cJ9_floorDiv_f86c9 25 = .ok (.lsub, 1) := by decide +kernel
theorem dJ9_floorDiv_f86c9_26 : decode cJ9_floorDiv_f86c9 26 = .ok (.lreturn, 1) := by decide +kernel
theorem dJ9_floorDiv_f86c9_27 : decode cJ9_floorDiv_f86c9 27 = .ok (.lload 4, 2) := by decide +kernel
theorem dJ9_floorDiv_f86c9_29 : decode cJ9_floorDiv_f86c9 29 = .ok (.lreturn, 1) := by decide +kernel
theorem dJ9_floorMod_f86c9_0 : decode cJ9_floorMod_f86c9 0 = .ok (.lload_n 0, 1) := by decide +kernel
theorem dJ9_floorMod_f86c9_1 : decode cJ9_floorMod_f86c9 1 = .ok (.lload_n 2, 1) := by decide +kernel
theorem dJ9_floorMod_f86c9_2 : decode cJ9_floorMod_f86c9 2 = .ok (.lrem, 1) := by decide +kernel
theorem dJ9_floorMod_f86c9_3 : decode cJ9_floorMod_f86c9 3 = .ok (.lstore 4, 2) := by decide +kernel
theorem dJ9_floorMod_f86c9_5 : decode cJ9_floorMod_f86c9 5 = .ok (.lload_n 0, 1) := by decide +kernel
theorem dJ9_floorMod_f86c9_6 : decode cJ9_floorMod_f86c9 6 = .ok (.lload_n 2, 1) := by decide +kernel
theorem dJ9_floorMod_f86c9_7 : decode cJ9_floorMod_f86c9 7 = .ok (.lxor, 1) := by decide +kernel
theorem dJ9_floorMod_f86c9_8 : decode cJ9_floorMod_f86c9 8 = .ok (.lconst 0, 1) := by decide +kernel
theorem dJ9_floorMod_f86c9_9 : decode cJ9_floorMod_f86c9 9 = .ok (.lcmp, 1) := by decide +kernel
theorem dJ9_floorMod_f86c9_10 : decode cJ9_floorMod_f86c9 10 = .ok (.ifCond .ge 15, 3) := by decide +kernel
theorem dJ9_floorMod_f86c9_13 : decode cJ9_floorMod_f86c9 13 = .ok (.lload 4, 2) := by decide +kernel
theorem dJ9_floorMod_f86c9_15 : decode cJ9_floorMod_f86c9 15 = .ok (.lconst 0, 1) := by decide +kernel
theorem dJ9_floorMod_f86c9_16 : decode cJ9_floorMod_f86c9 16 = .ok (.lcmp, 1) := by decide +kernel
theorem dJ9_floorMod_f86c9_17 : decode cJ9_floorMod_f86c9 17 = .ok (.ifCond .eq 8, 3) := by decide +kernel
theorem dJ9_floorMod_f86c9_20 : decode cJ9_floorMod_f86c9 20 = .ok (.lload 4, 2) := by decide +kernel
theorem dJ9_floorMod_f86c9_22 : decode cJ9_floorMod_f86c9 22 = .ok (.lload_n 2, 1) := by decide +kernel
theorem dJ9_floorMod_f86c9_23 : decode cJ9_floorMod_f86c9 23 = .ok (.ladd, 1) := by decide +kernel
theorem dJ9_floorMod_f86c9_24 : decode cJ9_floorMod_f86c9 24 = .ok (.lreturn, 1) := by decide +kernel
theorem dJ9_floorMod_f86c9_25 : decode cJ9_floorMod_f86c9 25 = .ok (.lload 4, 2) := by decide +kernel
theorem dJ9_floorMod_f86c9_27 : decode cJ9_floorMod_f86c9 27 = .ok (.lreturn, 1) := by decide +kernel
theorem dJ9_max_f86c9_0 : decode cJ9_max_f86c9 0 = .ok (.lload_n 0, 1) := by decide +kernel
theorem dJ9_max_f86c9_1 : decode cJ9_max_f86c9 1 = .ok (.lload_n 2, 1) := by decide +kernel
theorem dJ9_max_f86c9_2 : decode cJ9_max_f86c9 2 = .ok (.lcmp, 1) := by decide +kernel
theorem dJ9_max_f86c9_3 : decode cJ9_max_f86c9 3 = .ok (.ifCond .lt 7, 3) := by decide +kernel
theorem dJ9_max_f86c9_6 : decode cJ9_max_f86c9 6 = .ok (.lload_n 0, 1) := by decide +kernel
theorem dJ9_max_f86c9_7 : decode cJ9_max_f86c9 7 = .ok (.goto 4, 3) := by decide +kernel
theorem dJ9_max_f86c9_10 : decode cJ9_max_f86c9 10 = .ok (.lload_n 2, 1) := by decide +kernel
theorem dJ9_max_f86c9_11 : decode cJ9_max_f86c9 11 = .ok (.lreturn, 1) := by decide +kernel
theorem dJ9_min_7cf53_0 : decode cJ9_min_7cf53 0 = .ok (.iload_n 0, 1) := by decide +kernel
theorem dJ9_min_7cf53_1 : decode cJ9_min_7cf53 1 = .ok (.iload_n 1, 1) := by decide +kernel
theorem dJ9_min_7cf53_2 : decode cJ9_min_7cf53 2 = .ok (.if_icmp .gt 7, 3) := by decide +kernel
theorem dJ9_min_7cf53_5 : decode cJ9_min_7cf53 5 = .ok (.iload_n 0, 1) := by decide +kernel
theorem dJ9_min_7cf53_6 : decode cJ9_min_7cf53 6 = .ok (.goto 4, 3) := by decide +kernel
theorem dJ9_min_7cf53_9 : decode cJ9_min_7cf53 9 = .ok (.iload_n 1, 1) := by decide +kernel
theorem dJ9_min_7cf53_10 : decode cJ9_min_7cf53 10 = .ok (.ireturn, 1) := by decide +kernel
theorem dJ9_min_f86c9_0 : decode cJ9_min_f86c9 0 = .ok (.lload_n 0, 1) := by decide +kernel
theorem dJ9_min_f86c9_1 : decode cJ9_min_f86c9 1 = .ok (.lload_n 2, 1) := by decide +kernel
theorem dJ9_min_f86c9_2 : decode cJ9_min_f86c9 2 = .ok (.lcmp, 1) := by decide +kernel
theorem dJ9_min_f86c9_3 : decode cJ9_min_f86c9 3 = .ok (.ifCond .gt 7, 3) := by decide +kernel
theorem dJ9_min_f86c9_6 : decode cJ9_min_f86c9 6 = .ok (.lload_n 0, 1) := by decide +kernel
theorem dJ9_min_f86c9_7 : decode cJ9_min_f86c9 7 = .ok (.goto 4, 3) := by decide +kernel
theorem dJ9_min_f86c9_10 : decode cJ9_min_f86c9 10 = .ok (.lload_n 2, 1) := by decide +kernel
theorem dJ9_min_f86c9_11 : decode cJ9_min_f86c9 11 = .ok (.lreturn, 1) := by decide +kernel
