theorem dX1_init_0 : decode cX1_init 0 = .ok (.aload_n 0, 1) := by decide +kernel
theorem dX1_init_1 : decode cX1_init 1 = .ok (.invokespecial 1, 3) := by decide +kernel
theorem dX1_init_4 : decode cX1_init 4 = .ok (.return_, 1) := by decide +kernel
theorem dX1_assign_0 : decode cX1_assign 0 = .ok (.aload_n 0, 1) := by decide +kernel
theorem dX1_assign_1 : decode cX1_assign 1 = .ok (.lload_n 1, 1) := by decide +kernel
theorem dX1_assign_2 : decode cX1_assign 2 = .ok (.putfield 7, 3) := by decide +kernel
theorem dX1_assign_5 : decode cX1_assign 5 = .ok (.aload_n 0, 1) := by decide +kernel
theorem dX1_assign_6 : decode cX1_assign 6 = .ok (.lload_n 3, 1) := by decide +kernel
theorem dX1_assign_7 : decode cX1_assign 7 = .ok (.putfield 13, 3) := by decide +kernel
theorem dX1_assign_10 : decode cX1_assign 10 = .ok (.return_, 1) := by decide +kernel
set_option maxRecDepth 20000 in
theorem ggX1_whole_X7_cut : GoodIn wsX1_whole wsX7_cut := goodIn_r _ [5, 6, 7, 8, 9] (by decide +kernel) (by decide +kernel)
set_option maxRecDepth 20000 in
theorem gX1_whole_X7_cut_n16 : GoodIn wsX1_whole (wsX7_cut) := ggX1_whole_X7_cut
theorem dX1_whole_0 : decode cX1_whole 0 = .ok (.aload_n 0, 1) := by decide +kernel
theorem dX1_whole_1 : decode cX1_whole 1 = .ok (.getfield 7, 3) := by decide +kernel
theorem dX1_whole_4 : decode cX1_whole 4 = .ok (.aload_n 0, 1) := by decide +kernel
theorem dX1_whole_5 : decode cX1_whole 5 = .ok (.getfield 13, 3) := by decide +kernel
theorem dX1_whole_8 : decode cX1_whole 8 = .ok (.invokestatic 16, 3) := by decide +kernel
theorem dX1_whole_11 : decode cX1_whole 11 = .ok (.lreturn, 1) := by decide +kernel
set_option maxRecDepth 20000 in
theorem ggX1_turnOver_X1_whole : GoodIn wsX1_turnOver wsX1_whole := goodIn_r _ [7, 1, 2, 8, 9, 10, 11, 12, 13, 14, 15, 16] (by decide +kernel) (by decide +kernel)
set_option maxRecDepth 20000 in
theorem gX1_turnOver_X1_whole : GoodIn wsX1_turnOver (wsV RX1 22 RX1 yX1_whole wsX1_whole) := goodIn_app (goodIn_of _ (by decide +kernel)) ggX1_turnOver_X1_whole
theorem dX1_turnOver_0 : decode cX1_turnOver 0 = .ok (.aload_n 0, 1) := by decide +kernel
theorem dX1_turnOver_1 : decode cX1_turnOver 1 = .ok (.getfield 7, 3) := by decide +kernel
theorem dX1_turnOver_4 : decode cX1_turnOver 4 = .ok (.aload_n 0, 1) := by decide +kernel
theorem dX1_turnOver_5 : decode cX1_turnOver 5 = .ok (.invokevirtual 22, 3) := by decide +kernel
theorem dX1_turnOver_8 : decode cX1_turnOver 8 = .ok (.aload_n 0, 1) := by decide +kernel
theorem dX1_turnOver_9 : decode cX1_turnOver 9 = .ok (.getfield 13, 3) := by decide +kernel
theorem dX1_turnOver_12 : decode cX1_turnOver 12 = .ok (.lmul, 1) := by decide +kernel
theorem dX1_turnOver_13 : decode cX1_turnOver 13 = .ok (.lsub, 1) := by decide +kernel
theorem dX1_turnOver_14 : decode cX1_turnOver 14 = .ok (.lstore_n 1, 1) := by decide +kernel
theorem dX1_turnOver_15 : decode cX1_turnOver 15 = .ok (.aload_n 0, 1) := by decide +kernel
theorem dX1_turnOver_16 : decode cX1_turnOver 16 = .ok (.aload_n 0, 1) := by decide +kernel
theorem dX1_turnOver_17 : decode cX1_turnOver 17 = .ok (.getfield 13, 3) := by decide +kernel
theorem dX1_turnOver_20 : decode cX1_turnOver 20 = .ok (.putfield 7, 3) := by decide +kernel
theorem dX1_turnOver_23 : decode cX1_turnOver 23 = .ok (.aload_n 0, 1) := by decide +kernel
theorem dX1_turnOver_24 : decode cX1_turnOver 24 = .ok (.lload_n 1, 1) := by decide +kernel
theorem dX1_turnOver_25 : decode cX1_turnOver 25 = .ok (.putfield 13, 3) := by decide +kernel
theorem dX1_turnOver_28 : decode cX1_turnOver 28 = .ok (.return_, 1) := by decide +kernel
theorem dX2_init_0 : decode cX2_init 0 = .ok (.aload_n 0, 1) := by decide +kernel
theorem dX2_init_1 : decode cX2_init 1 = .ok (.invokespecial 3, 3) := by decide +kernel
theorem dX2_init_4 : decode cX2_init 4 = .ok (.return_, 1) := by decide +kernel
theorem dX2_clear_0 : decode cX2_clear 0 = .ok (.aload_n 0, 1) := by decide +kernel
theorem dX2_clear_1 : decode cX2_clear 1 = .ok (.iconst 0, 1) := by decide +kernel
theorem dX2_clear_2 : decode cX2_clear 2 = .ok (.putfield 9, 3) := by decide +kernel
theorem dX2_clear_5 : decode cX2_clear 5 = .ok (.aload_n 0, 1) := by decide +kernel
theorem dX2_clear_6 : decode cX2_clear 6 = .ok (.lconst 0, 1) := by decide +kernel
theorem dX2_clear_7 : decode cX2_clear 7 = .ok (.putfield 15, 3) := by decide +kernel
theorem dX2_clear_10 : decode cX2_clear 10 = .ok (.aload_n 0, 1) := by decide +kernel
theorem dX2_clear_11 : decode cX2_clear 11 = .ok (.lconst 0, 1) := by decide +kernel
theorem dX2_clear_12 : decode cX2_clear 12 = .ok (.putfield 19, 3) := by decide +kernel
theorem dX2_clear_15 : decode cX2_clear 15 = .ok (.return_, 1) := by decide +kernel
theorem dX2_assign_0 : decode cX2_assign 0 = .ok (.aload_n 0, 1) := by decide +kernel
theorem dX2_assign_1 : decode cX2_assign 1 = .ok (.iconst 1, 1) := by decide +kernel
theorem dX2_assign_2 : decode cX2_assign 2 = .ok (.putfield 9, 3) := by decide +kernel
theorem dX2_assign_5 : decode cX2_assign 5 = .ok (.aload_n 0, 1) := by decide +kernel
theorem dX2_assign_6 : decode cX2_assign 6 = .ok (.lload_n 1, 1) := by decide +kernel
theorem dX2_assign_7 : decode cX2_assign 7 = .ok (.putfield 15, 3) := by decide +kernel
theorem dX2_assign_10 : decode cX2_assign 10 = .ok (.aload_n 0, 1) := by decide +kernel
theorem dX2_assign_11 : decode cX2_assign 11 = .ok (.lload_n 3, 1) := by decide +kernel
theorem dX2_assign_12 : decode cX2_assign 12 = .ok (.putfield 19, 3) := by decide +kernel
theorem dX2_assign_15 : decode cX2_assign 15 = .ok (.return_, 1) := by decide +kernel
set_option maxRecDepth 20000 in
theorem ggX2_dropBeyondReach_X7_unitsAt : GoodIn wsX2_dropBeyondReach wsX7_unitsAt := goodIn_r _ [6] (by decide +kernel) (by decide +kernel)
set_option maxRecDepth 20000 in
theorem gX2_dropBeyondReach_X7_unitsAt_n24 : GoodIn wsX2_dropBeyondReach (wsX7_unitsAt) := ggX2_dropBeyondReach_X7_unitsAt
set_option maxRecDepth 20000 in
theorem ggX2_dropBeyondReach_X2_clear : GoodIn wsX2_dropBeyondReach wsX2_clear := goodIn_r _ [11, 12, 2, 3, 13, 14, 15] (by decide +kernel) (by decide +kernel)
set_option maxRecDepth 20000 in
theorem gX2_dropBeyondReach_X2_clear : GoodIn wsX2_dropBeyondReach (wsV RX2 28 RX2 yX2_clear wsX2_clear) := goodIn_app (goodIn_of _ (by decide +kernel)) ggX2_dropBeyondReach_X2_clear
theorem dX2_dropBeyondReach_0 : decode cX2_dropBeyondReach 0 = .ok (.ldc2_w 22, 3) := by decide +kernel
theorem dX2_dropBeyondReach_3 : decode cX2_dropBeyondReach 3 = .ok (.iload_n 1, 1) := by decide +kernel
theorem dX2_dropBeyondReach_4 : decode cX2_dropBeyondReach 4 = .ok (.invokestatic 24, 3) := by decide +kernel
theorem dX2_dropBeyondReach_7 : decode cX2_dropBeyondReach 7 = .ok (.lmul, 1) := by decide +kernel
theorem dX2_dropBeyondReach_8 : decode cX2_dropBeyondReach 8 = .ok (.lstore_n 2, 1) := by decide +kernel
theorem dX2_dropBeyondReach_9 : decode cX2_dropBeyondReach 9 = .ok (.aload_n 0, 1) := by decide +kernel
theorem dX2_dropBeyondReach_10 : decode cX2_dropBeyondReach 10 = .ok (.getfield 15, 3) := by decide +kernel
theorem dX2_dropBeyondReach_13 : decode cX2_dropBeyondReach 13 = .ok (.lload_n 2, 1) := by decide +kernel
theorem dX2_dropBeyondReach_14 : decode cX2_dropBeyondReach 14 = .ok (.lneg, 1) := by decide +kernel
theorem dX2_dropBeyondReach_15 : decode cX2_dropBeyondReach 15 = .ok (.lcmp, 1) := by decide +kernel
theorem dX2_dropBeyondReach_16 : decode cX2_dropBeyondReach 16 = .ok (.ifCond .lt 12, 3) := by decide +kernel
theorem dX2_dropBeyondReach_19 : decode cX2_dropBeyondReach 19 = .ok (.aload_n 0, 1) := by decide +kernel
theorem dX2_dropBeyondReach_20 : decode cX2_dropBeyondReach 20 = .ok (.getfield 19, 3) := by decide +kernel
theorem dX2_dropBeyondReach_23 : decode cX2_dropBeyondReach 23 = .ok (.lload_n 2, 1) := by decide +kernel
theorem dX2_dropBeyondReach_24 : decode cX2_dropBeyondReach 24 = .ok (.lcmp, 1) := by decide +kernel
theorem dX2_dropBeyondReach_25 : decode cX2_dropBeyondReach 25 = .ok (.ifCond .le 7, 3) := by decide +kernel
theorem dX2_dropBeyondReach_28 : decode cX2_dropBeyondReach 28 = .ok (.aload_n 0, 1) := by decide +kernel
theorem dX2_dropBeyondReach_29 : decode cX2_dropBeyondReach 29 = .ok (.invokevirtual 28, 3) := by decide +kernel
theorem dX2_dropBeyondReach_32 : decode cX2_dropBeyondReach 32 = .ok (.return_, 1) := by decide +kernel
set_option maxRecDepth 20000 in
theorem ggX2_narrow_X2_assign : GoodIn wsX2_narrow wsX2_assign := goodIn_r _ [16, 1, 2, 3, 17, 18, 19] (by decide +kernel) (by decide +kernel)
set_option maxRecDepth 20000 in
theorem gX2_narrow_X2_assign : GoodIn wsX2_narrow (wsV RX2 31 RX2 yX2_assign wsX2_assign) := goodIn_app (goodIn_of _ (by decide +kernel)) ggX2_narrow_X2_assign
theorem dX2_narrow_0 : decode cX2_narrow 0 = .ok (.aload_n 0, 1) := by decide +kernel
theorem dX2_narrow_1 : decode cX2_narrow 1 = .ok (.getfield 9, 3) := by decide +kernel
theorem dX2_narrow_4 : decode cX2_narrow 4 = .ok (.ifCond .ne 23, 3) := by decide +kernel
theorem dX2_narrow_7 : decode cX2_narrow 7 = .ok (.aload_n 1, 1) := by decide +kernel
theorem dX2_narrow_8 : decode cX2_narrow 8 = .ok (.getfield 9, 3) := by decide +kernel
theorem dX2_narrow_11 : decode cX2_narrow 11 = .ok (.ifCond .eq 15, 3) := by decide +kernel
theorem dX2_narrow_14 : decode cX2_narrow 14 = .ok (.aload_n 0, 1) := by decide +kernel
theorem dX2_narrow_15 : decode cX2_narrow 15 = .ok (.aload_n 1, 1) := by decide +kernel
theorem dX2_narrow_16 : decode cX2_narrow 16 = .ok (.getfield 15, 3) := by decide +kernel
theorem dX2_narrow_19 : decode cX2_narrow 19 = .ok (.aload_n 1, 1) := by decide +kernel
theorem dX2_narrow_20 : decode cX2_narrow 20 = .ok (.getfield 19, 3) := by decide +kernel
theorem dX2_narrow_23 : decode cX2_narrow 23 = .ok (.invokevirtual 31, 3) := by decide +kernel
theorem dX2_narrow_26 : decode cX2_narrow 26 = .ok (.return_, 1) := by decide +kernel
theorem dX2_narrow_27 : decode cX2_narrow 27 = .ok (.aload_n 0, 1) := by decide +kernel
theorem dX2_narrow_28 : decode cX2_narrow 28 = .ok (.ldc2_w 35, 3) := by decide +kernel
theorem dX2_narrow_31 : decode cX2_narrow 31 = .ok (.aload_n 0, 1) := by decide +kernel
theorem dX2_narrow_32 : decode cX2_narrow 32 = .ok (.getfield 15, 3) := by decide +kernel
theorem dX2_narrow_35 : decode cX2_narrow 35 = .ok (.lmul, 1) := by decide +kernel
theorem dX2_narrow_36 : decode cX2_narrow 36 = .ok (.ldc2_w 35, 3) := by decide +kernel
theorem dX2_narrow_39 : decode cX2_narrow 39 = .ok (.aload_n 0, 1) := by decide +kernel
theorem dX2_narrow_40 : decode cX2_narrow 40 = .ok (.getfield 19, 3) := by decide +kernel
theorem dX2_narrow_43 : decode cX2_narrow 43 = .ok (.lmul, 1) := by decide +kernel
theorem dX2_narrow_44 : decode cX2_narrow 44 = .ok (.invokevirtual 31, 3) := by decide +kernel
theorem dX2_narrow_47 : decode cX2_narrow 47 = .ok (.aload_n 1, 1) := by decide +kernel
theorem dX2_narrow_48 : decode cX2_narrow 48 = .ok (.getfield 9, 3) := by decide +kernel
theorem dX2_narrow_51 : decode cX2_narrow 51 = .ok (.ifCond .eq 29, 3) := by decide +kernel
theorem dX2_narrow_54 : decode cX2_narrow 54 = .ok (.aload_n 0, 1) := by decide +kernel
theorem dX2_narrow_55 : decode cX2_narrow 55 = .ok (.aload_n 0, 1) := by decide +kernel
theorem dX2_narrow_56 : decode cX2_narrow 56 = .ok (.getfield 15, 3) := by decide +kernel
theorem dX2_narrow_59 : decode cX2_narrow 59 = .ok (.aload_n 1, 1) := by decide +kernel
theorem dX2_narrow_60 : decode cX2_narrow 60 = .ok (.getfield 15, 3) := by decide +kernel
theorem dX2_narrow_63 : decode cX2_narrow 63 = .ok (.invokestatic 37, 3) := by decide +kernel
theorem dX2_narrow_66 : decode cX2_narrow 66 = .ok (.aload_n 0, 1) := by decide +kernel
theorem dX2_narrow_67 : decode cX2_narrow 67 = .ok (.getfield 19, 3) := by decide +kernel
theorem dX2_narrow_70 : decode cX2_narrow 70 = .ok (.aload_n 1, 1) := by decide +kernel
theorem dX2_narrow_71 : decode cX2_narrow 71 = .ok (.getfield 19, 3) := by decide +kernel
theorem dX2_narrow_74 : decode cX2_narrow 74 = .ok (.invokestatic 43, 3) := by decide +kernel
theorem dX2_narrow_77 : decode cX2_narrow 77 = .ok (.invokevirtual 31, 3) := by decide +kernel
theorem dX2_narrow_80 : decode cX2_narrow 80 = .ok (.return_, 1) := by decide +kernel
set_option maxRecDepth 20000 in
theorem ggX2_multiply_X7_unitsAt : GoodIn wsX2_multiply wsX7_unitsAt := goodIn_r _ [12] (by decide +kernel) (by decide +kernel)
set_option maxRecDepth 20000 in
theorem gX2_multiply_X7_unitsAt_n24 : GoodIn wsX2_multiply (wsX7_unitsAt) := ggX2_multiply_X7_unitsAt
set_option maxRecDepth 20000 in
theorem ggX2_multiply_X7_cut : GoodIn wsX2_multiply wsX7_cut := goodIn_r _ [14, 15, 16, 17, 18] (by decide +kernel) (by decide +kernel)
set_option maxRecDepth 20000 in
theorem gX2_multiply_X7_cut_n46 : GoodIn wsX2_multiply (wsX7_cut) := ggX2_multiply_X7_cut
set_option maxRecDepth 20000 in
theorem ggX2_multiply_X7_fill : GoodIn wsX2_multiply wsX7_fill := goodIn_r _ [20, 15, 16, 17, 18] (by decide +kernel) (by decide +kernel)
set_option maxRecDepth 20000 in
theorem gX2_multiply_X7_fill_n49 : GoodIn wsX2_multiply (wsX7_fill) := ggX2_multiply_X7_fill
set_option maxRecDepth 20000 in
theorem ggX2_multiply_X2_assign : GoodIn wsX2_multiply wsX2_assign := goodIn_r _ [25, 26, 1, 2, 27, 28, 29] (by decide +kernel) (by decide +kernel)
set_option maxRecDepth 20000 in
theorem gX2_multiply_X2_assign : GoodIn wsX2_multiply (wsV RX2 31 RX2 yX2_assign wsX2_assign) := goodIn_app (goodIn_of _ (by decide +kernel)) ggX2_multiply_X2_assign
theorem dX2_multiply_0 : decode cX2_multiply 0 = .ok (.aload_n 1, 1) := by decide +kernel
theorem dX2_multiply_1 : decode cX2_multiply 1 = .ok (.getfield 15, 3) := by decide +kernel
theorem dX2_multiply_4 : decode cX2_multiply 4 = .ok (.aload_n 2, 1) := by decide +kernel
theorem dX2_multiply_5 : decode cX2_multiply 5 = .ok (.getfield 15, 3) := by decide +kernel
theorem dX2_multiply_8 : decode cX2_multiply 8 = .ok (.lmul, 1) := by decide +kernel
theorem dX2_multiply_9 : decode cX2_multiply 9 = .ok (.lstore 4, 2) := by decide +kernel
theorem dX2_multiply_11 : decode cX2_multiply 11 = .ok (.aload_n 1, 1) := by decide +kernel
theorem dX2_multiply_12 : decode cX2_multiply 12 = .ok (.getfield 15, 3) := by decide +kernel
theorem dX2_multiply_15 : decode cX2_multiply 15 = .ok (.aload_n 2, 1) := by decide +kernel
theorem dX2_multiply_16 : decode cX2_multiply 16 = .ok (.getfield 19, 3) := by decide +kernel
theorem dX2_multiply_19 : decode cX2_multiply 19 = .ok (.lmul, 1) := by decide +kernel
theorem dX2_multiply_20 : decode cX2_multiply 20 = .ok (.lstore 6, 2) := by decide +kernel
theorem dX2_multiply_22 : decode cX2_multiply 22 = .ok (.aload_n 1, 1) := by decide +kernel
theorem dX2_multiply_23 : decode cX2_multiply 23 = .ok (.getfield 19, 3) := by decide +kernel
theorem dX2_multiply_26 : decode cX2_multiply 26 = .ok (.aload_n 2, 1) := by decide +kernel
theorem dX2_multiply_27 : decode cX2_multiply 27 = .ok (.getfield 15, 3) := by decide +kernel
theorem dX2_multiply_30 : decode cX2_multiply 30 = .ok (.lmul, 1) := by decide +kernel
theorem dX2_multiply_31 : decode cX2_multiply 31 = .ok (.lstore 8, 2) := by decide +kernel
theorem dX2_multiply_33 : decode cX2_multiply 33 = .ok (.aload_n 1, 1) := by decide +kernel
theorem dX2_multiply_34 : decode cX2_multiply 34 = .ok (.getfield 19, 3) := by decide +kernel
theorem dX2_multiply_37 : decode cX2_multiply 37 = .ok (.aload_n 2, 1) := by decide +kernel
theorem dX2_multiply_38 : decode cX2_multiply 38 = .ok (.getfield 19, 3) := by decide +kernel
theorem dX2_multiply_41 : decode cX2_multiply 41 = .ok (.lmul, 1) := by decide +kernel
theorem dX2_multiply_42 : decode cX2_multiply 42 = .ok (.lstore 10, 2) := by decide +kernel
theorem dX2_multiply_44 : decode cX2_multiply 44 = .ok (.lload 4, 2) := by decide +kernel
theorem dX2_multiply_46 : decode cX2_multiply 46 = .ok (.lload 6, 2) := by decide +kernel
theorem dX2_multiply_48 : decode cX2_multiply 48 = .ok (.invokestatic 43, 3) := by decide +kernel
theorem dX2_multiply_51 : decode cX2_multiply 51 = .ok (.lload 8, 2) := by decide +kernel
theorem dX2_multiply_53 : decode cX2_multiply 53 = .ok (.lload 10, 2) := by decide +kernel
theorem dX2_multiply_55 : decode cX2_multiply 55 = .ok (.invokestatic 43, 3) := by decide +kernel
theorem dX2_multiply_58 : decode cX2_multiply 58 = .ok (.invokestatic 43, 3) := by decide +kernel
theorem dX2_multiply_61 : decode cX2_multiply 61 = .ok (.lstore 12, 2) := by decide +kernel
theorem dX2_multiply_63 : decode cX2_multiply 63 = .ok (.lload 4, 2) := by decide +kernel
theorem dX2_multiply_65 : decode cX2_multiply 65 = .ok (.lload 6, 2) := by decide +kernel
theorem dX2_multiply_67 : decode cX2_multiply 67 = .ok (.invokestatic 37, 3) := by decide +kernel
theorem dX2_multiply_70 : decode cX2_multiply 70 = .ok (.lload 8, 2) := by decide +kernel
theorem dX2_multiply_72 : decode cX2_multiply 72 = .ok (.lload 10, 2) := by decide +kernel
theorem dX2_multiply_74 : decode cX2_multiply 74 = .ok (.invokestatic 37, 3) := by decide +kernel
theorem dX2_multiply_77 : decode cX2_multiply 77 = .ok (.invokestatic 37, 3) := by decide +kernel
theorem dX2_multiply_80 : decode cX2_multiply 80 = .ok (.lstore 14, 2) := by decide +kernel
theorem dX2_multiply_82 : decode cX2_multiply 82 = .ok (.aload_n 0, 1) := by decide +kernel
theorem dX2_multiply_83 : decode cX2_multiply 83 = .ok (.lload 12, 2) := by decide +kernel
theorem dX2_multiply_85 : decode cX2_multiply 85 = .ok (.iload_n 3, 1) := by decide +kernel
theorem dX2_multiply_86 : decode cX2_multiply 86 = .ok (.invokestatic 24, 3) := by decide +kernel
theorem dX2_multiply_89 : decode cX2_multiply 89 = .ok (.invokestatic 46, 3) := by decide +kernel
theorem dX2_multiply_92 : decode cX2_multiply 92 = .ok (.lload 14, 2) := by decide +kernel
theorem dX2_multiply_94 : decode cX2_multiply 94 = .ok (.iload_n 3, 1) := by decide +kernel
theorem dX2_multiply_95 : decode cX2_multiply 95 = .ok (.invokestatic 24, 3) := by decide +kernel
theorem dX2_multiply_98 : decode cX2_multiply 98 = .ok (.invokestatic 49, 3) := by decide +kernel
theorem dX2_multiply_101 : decode cX2_multiply 101 = .ok (.invokevirtual 31, 3) := by decide +kernel
theorem dX2_multiply_104 : decode cX2_multiply 104 = .ok (.return_, 1) := by decide +kernel
set_option maxRecDepth 20000 in
theorem ggX2_invert_X2_clear : GoodIn wsX2_invert wsX2_clear := goodIn_r _ [7, 8, 1, 2, 24, 25, 26] (by decide +kernel) (by decide +kernel)
set_option maxRecDepth 20000 in
theorem gX2_invert_X2_clear : GoodIn wsX2_invert (wsV RX2 28 RX2 yX2_clear wsX2_clear) := goodIn_app (goodIn_of _ (by decide +kernel)) ggX2_invert_X2_clear
set_option maxRecDepth 20000 in
theorem ggX2_invert_X7_unitsAt : GoodIn wsX2_invert wsX7_unitsAt := goodIn_r _ [11] (by decide +kernel) (by decide +kernel)
set_option maxRecDepth 20000 in
theorem gX2_invert_X7_unitsAt_n24 : GoodIn wsX2_invert (wsX7_unitsAt) := ggX2_invert_X7_unitsAt
set_option maxRecDepth 20000 in
theorem ggX2_invert_X7_cut : GoodIn wsX2_invert wsX7_cut := goodIn_r _ [13, 14, 15, 16, 17] (by decide +kernel) (by decide +kernel)
set_option maxRecDepth 20000 in
theorem gX2_invert_X7_cut_n46 : GoodIn wsX2_invert (wsX7_cut) := ggX2_invert_X7_cut
set_option maxRecDepth 20000 in
theorem ggX2_invert_X7_fill : GoodIn wsX2_invert wsX7_fill := goodIn_r _ [19, 14, 15, 16, 17] (by decide +kernel) (by decide +kernel)
set_option maxRecDepth 20000 in
theorem gX2_invert_X7_fill_n49 : GoodIn wsX2_invert (wsX7_fill) := ggX2_invert_X7_fill
set_option maxRecDepth 20000 in
theorem ggX2_invert_X2_assign : GoodIn wsX2_invert wsX2_assign := goodIn_r _ [23, 8, 1, 2, 24, 25, 26] (by decide +kernel) (by decide +kernel)
set_option maxRecDepth 20000 in
theorem gX2_invert_X2_assign : GoodIn wsX2_invert (wsV RX2 31 RX2 yX2_assign wsX2_assign) := goodIn_app (goodIn_of _ (by decide +kernel)) ggX2_invert_X2_assign
theorem dX2_invert_0 : decode cX2_invert 0 = .ok (.aload_n 1, 1) := by decide +kernel
theorem dX2_invert_1 : decode cX2_invert 1 = .ok (.getfield 15, 3) := by decide +kernel
theorem dX2_invert_4 : decode cX2_invert 4 = .ok (.lconst 0, 1) := by decide +kernel
theorem dX2_invert_5 : decode cX2_invert 5 = .ok (.lcmp, 1) := by decide +kernel
theorem dX2_invert_6 : decode cX2_invert 6 = .ok (.ifCond .gt 17, 3) := by decide +kernel
theorem dX2_invert_9 : decode cX2_invert 9 = .ok (.aload_n 1, 1) := by decide +kernel
theorem dX2_invert_10 : decode cX2_invert 10 = .ok (.getfield 19, 3) := by decide +kernel
theorem dX2_invert_13 : decode cX2_invert 13 = .ok (.lconst 0, 1) := by decide +kernel
theorem dX2_invert_14 : decode cX2_invert 14 = .ok (.lcmp, 1) := by decide +kernel
theorem dX2_invert_15 : decode cX2_invert 15 = .ok (.ifCond .lt 8, 3) := by decide +kernel
theorem dX2_invert_18 : decode cX2_invert 18 = .ok (.aload_n 0, 1) := by decide +kernel
theorem dX2_invert_19 : decode cX2_invert 19 = .ok (.invokevirtual 28, 3) := by decide +kernel
theorem dX2_invert_22 : decode cX2_invert 22 = .ok (.return_, 1) := by decide +kernel
theorem dX2_invert_23 : decode cX2_invert 23 = .ok (.iconst 2, 1) := by decide +kernel
theorem dX2_invert_24 : decode cX2_invert 24 = .ok (.iload_n 2, 1) := by decide +kernel
theorem dX2_invert_25 : decode cX2_invert 25 = .ok (.imul, 1) := by decide +kernel
theorem dX2_invert_26 : decode cX2_invert 26 = .ok (.invokestatic 24, 3) := by decide +kernel
theorem dX2_invert_29 : decode cX2_invert 29 = .ok (.lstore_n 3, 1) := by decide +kernel
theorem dX2_invert_30 : decode cX2_invert 30 = .ok (.aload_n 0, 1) := by decide +kernel
theorem dX2_invert_31 : decode cX2_invert 31 = .ok (.lload_n 3, 1) := by decide +kernel
theorem dX2_invert_32 : decode cX2_invert 32 = .ok (.aload_n 1, 1) := by decide +kernel
theorem dX2_invert_33 : decode cX2_invert 33 = .ok (.getfield 19, 3) := by decide +kernel
theorem dX2_invert_36 : decode cX2_invert 36 = .ok (.invokestatic 46, 3) := by decide +kernel
theorem dX2_invert_39 : decode cX2_invert 39 = .ok (.lload_n 3, 1) := by decide +kernel
theorem dX2_invert_40 : decode cX2_invert 40 = .ok (.aload_n 1, 1) := by decide +kernel
theorem dX2_invert_41 : decode cX2_invert 41 = .ok (.getfield 15, 3) := by decide +kernel
theorem dX2_invert_44 : decode cX2_invert 44 = .ok (.invokestatic 49, 3) := by decide +kernel
theorem dX2_invert_47 : decode cX2_invert 47 = .ok (.invokevirtual 31, 3) := by decide +kernel
theorem dX2_invert_50 : decode cX2_invert 50 = .ok (.return_, 1) := by decide +kernel
set_option maxRecDepth 20000 in
theorem ggX2_takeRoot_X7_unitsAt : GoodIn wsX2_takeRoot wsX7_unitsAt := goodIn_r _ [9] (by decide +kernel) (by decide +kernel)
set_option maxRecDepth 20000 in
theorem gX2_takeRoot_X7_unitsAt_n24 : GoodIn wsX2_takeRoot (wsX7_unitsAt) := ggX2_takeRoot_X7_unitsAt
set_option maxRecDepth 20000 in
theorem ggX2_takeRoot_X7_cutRoot : GoodIn wsX2_takeRoot wsX7_cutRoot := goodIn_r _ [11] (by decide +kernel) (by decide +kernel)
set_option maxRecDepth 20000 in
theorem gX2_takeRoot_X7_cutRoot_n52 : GoodIn wsX2_takeRoot (wsX7_cutRoot) := ggX2_takeRoot_X7_cutRoot
set_option maxRecDepth 20000 in
theorem ggX2_takeRoot_X7_fillRoot : GoodIn wsX2_takeRoot wsX7_fillRoot := goodIn_r _ [13, 14, 10, 8, 11] (by decide +kernel) (by decide +kernel)
set_option maxRecDepth 20000 in
theorem gX2_takeRoot_X7_fillRoot_n56 : GoodIn wsX2_takeRoot (wsX7_fillRoot) := ggX2_takeRoot_X7_fillRoot
set_option maxRecDepth 20000 in
theorem ggX2_takeRoot_X2_assign : GoodIn wsX2_takeRoot wsX2_assign := goodIn_r _ [19, 20, 1, 6, 21, 22, 23] (by decide +kernel) (by decide +kernel)
set_option maxRecDepth 20000 in
theorem gX2_takeRoot_X2_assign : GoodIn wsX2_takeRoot (wsV RX2 31 RX2 yX2_assign wsX2_assign) := goodIn_app (goodIn_of _ (by decide +kernel)) ggX2_takeRoot_X2_assign
theorem dX2_takeRoot_0 : decode cX2_takeRoot 0 = .ok (.aload_n 1, 1) := by decide +kernel
theorem dX2_takeRoot_1 : decode cX2_takeRoot 1 = .ok (.getfield 15, 3) := by decide +kernel
theorem dX2_takeRoot_4 : decode cX2_takeRoot 4 = .ok (.lconst 0, 1) := by decide +kernel
theorem dX2_takeRoot_5 : decode cX2_takeRoot 5 = .ok (.invokestatic 37, 3) := by decide +kernel
theorem dX2_takeRoot_8 : decode cX2_takeRoot 8 = .ok (.iload_n 2, 1) := by decide +kernel
theorem dX2_takeRoot_9 : decode cX2_takeRoot 9 = .ok (.invokestatic 24, 3) := by decide +kernel
theorem dX2_takeRoot_12 : decode cX2_takeRoot 12 = .ok (.lmul, 1) := by decide +kernel
theorem dX2_takeRoot_13 : decode cX2_takeRoot 13 = .ok (.lstore_n 3, 1) := by decide +kernel
theorem dX2_takeRoot_14 : decode cX2_takeRoot 14 = .ok (.aload_n 1, 1) := by decide +kernel
theorem dX2_takeRoot_15 : decode cX2_takeRoot 15 = .ok (.getfield 19, 3) := by decide +kernel
theorem dX2_takeRoot_18 : decode cX2_takeRoot 18 = .ok (.lconst 0, 1) := by decide +kernel
theorem dX2_takeRoot_19 : decode cX2_takeRoot 19 = .ok (.invokestatic 37, 3) := by decide +kernel
theorem dX2_takeRoot_22 : decode cX2_takeRoot 22 = .ok (.iload_n 2, 1) := by decide +kernel
theorem dX2_takeRoot_23 : decode cX2_takeRoot 23 = .ok (.invokestatic 24, 3) := by decide +kernel
theorem dX2_takeRoot_26 : decode cX2_takeRoot 26 = .ok (.lmul, 1) := by decide +kernel
theorem dX2_takeRoot_27 : decode cX2_takeRoot 27 = .ok (.lstore 5, 2) := by decide +kernel
theorem dX2_takeRoot_29 : decode cX2_takeRoot 29 = .ok (.aload_n 0, 1) := by decide +kernel
theorem dX2_takeRoot_30 : decode cX2_takeRoot 30 = .ok (.lload_n 3, 1) := by decide +kernel
theorem dX2_takeRoot_31 : decode cX2_takeRoot 31 = .ok (.invokestatic 52, 3) := by decide +kernel
theorem dX2_takeRoot_34 : decode cX2_takeRoot 34 = .ok (.lload 5, 2) := by decide +kernel
theorem dX2_takeRoot_36 : decode cX2_takeRoot 36 = .ok (.invokestatic 56, 3) := by decide +kernel
theorem dX2_takeRoot_39 : decode cX2_takeRoot 39 = .ok (.invokevirtual 31, 3) := by decide +kernel
theorem dX2_takeRoot_42 : decode cX2_takeRoot 42 = .ok (.return_, 1) := by decide +kernel
set_option maxRecDepth 20000 in
theorem ggX2_takeExp_X7_unitsAt : GoodIn wsX2_takeExp wsX7_unitsAt := goodIn_r _ [5] (by decide +kernel) (by decide +kernel)
set_option maxRecDepth 20000 in
theorem gX2_takeExp_X7_unitsAt_n24 : GoodIn wsX2_takeExp (wsX7_unitsAt) := ggX2_takeExp_X7_unitsAt
set_option maxRecDepth 20000 in
theorem ggX2_takeExp_X2_clear : GoodIn wsX2_takeExp wsX2_clear := goodIn_r _ [10, 11, 1, 2, 35, 36, 37] (by decide +kernel) (by decide +kernel)
set_option maxRecDepth 20000 in
theorem gX2_takeExp_X2_clear : GoodIn wsX2_takeExp (wsV RX2 28 RX2 yX2_clear wsX2_clear) := goodIn_app (goodIn_of _ (by decide +kernel)) ggX2_takeExp_X2_clear
set_option maxRecDepth 20000 in
theorem ggX2_takeExp_X2_assign : GoodIn wsX2_takeExp wsX2_assign := goodIn_r _ [15, 11, 1, 2, 35, 36, 37] (by decide +kernel) (by decide +kernel)
set_option maxRecDepth 20000 in
theorem gX2_takeExp_X2_assign : GoodIn wsX2_takeExp (wsV RX2 31 RX2 yX2_assign wsX2_assign) := goodIn_app (goodIn_of _ (by decide +kernel)) ggX2_takeExp_X2_assign
set_option maxRecDepth 20000 in
theorem ggX2_takeExp_X2_multiply : GoodIn wsX2_takeExp wsX2_multiply := goodIn_r _ [19, 1, 2, 20, 21, 22, 23, 24, 25, 26, 3, 4, 5, 27, 28, 29, 30, 31, 32, 33, 34, 12, 13, 14, 9, 15, 11, 35, 36, 37] (by decide +kernel) (by decide +kernel)
set_option maxRecDepth 20000 in
theorem gX2_takeExp_X2_multiply : GoodIn wsX2_takeExp (wsV RX2 59 RX2 yX2_multiply wsX2_multiply) := goodIn_app (goodIn_of _ (by decide +kernel)) ggX2_takeExp_X2_multiply
set_option maxRecDepth 20000 in
theorem ggX2_takeExp_X7_cut : GoodIn wsX2_takeExp wsX7_cut := goodIn_r _ [28, 29, 30, 31, 32] (by decide +kernel) (by decide +kernel)
set_option maxRecDepth 20000 in
theorem gX2_takeExp_X7_cut_n46 : GoodIn wsX2_takeExp (wsX7_cut) := ggX2_takeExp_X7_cut
set_option maxRecDepth 20000 in
theorem ggX2_takeExp_X7_fill : GoodIn wsX2_takeExp wsX7_fill := goodIn_r _ [34, 29, 30, 31, 32] (by decide +kernel) (by decide +kernel)
set_option maxRecDepth 20000 in
theorem gX2_takeExp_X7_fill_n49 : GoodIn wsX2_takeExp (wsX7_fill) := ggX2_takeExp_X7_fill
theorem dX2_takeExp_0 : decode cX2_takeExp 0 = .ok (.iload_n 2, 1) := by decide +kernel
theorem dX2_takeExp_1 : decode cX2_takeExp 1 = .ok (.invokestatic 24, 3) := by decide +kernel
theorem dX2_takeExp_4 : decode cX2_takeExp 4 = .ok (.lstore_n 3, 1) := by decide +kernel
theorem dX2_takeExp_5 : decode cX2_takeExp 5 = .ok (.aload_n 1, 1) := by decide +kernel
theorem dX2_takeExp_6 : decode cX2_takeExp 6 = .ok (.getfield 15, 3) := by decide +kernel
theorem dX2_takeExp_9 : decode cX2_takeExp 9 = .ok (.lload_n 3, 1) := by decide +kernel
theorem dX2_takeExp_10 : decode cX2_takeExp 10 = .ok (.lneg, 1) := by decide +kernel
theorem dX2_takeExp_11 : decode cX2_takeExp 11 = .ok (.lcmp, 1) := by decide +kernel
theorem dX2_takeExp_12 : decode cX2_takeExp 12 = .ok (.ifCond .lt 12, 3) := by decide +kernel
theorem dX2_takeExp_15 : decode cX2_takeExp 15 = .ok (.aload_n 1, 1) := by decide +kernel
theorem dX2_takeExp_16 : decode cX2_takeExp 16 = .ok (.getfield 19, 3) := by decide +kernel
theorem dX2_takeExp_19 : decode cX2_takeExp 19 = .ok (.lload_n 3, 1) := by decide +kernel
theorem dX2_takeExp_20 : decode cX2_takeExp 20 = .ok (.lcmp, 1) := by decide +kernel
theorem dX2_takeExp_21 : decode cX2_takeExp 21 = .ok (.ifCond .le 8, 3) := by decide +kernel
theorem dX2_takeExp_24 : decode cX2_takeExp 24 = .ok (.aload_n 0, 1) := by decide +kernel
theorem dX2_takeExp_25 : decode cX2_takeExp 25 = .ok (.invokevirtual 28, 3) := by decide +kernel
theorem dX2_takeExp_28 : decode cX2_takeExp 28 = .ok (.return_, 1) := by decide +kernel
theorem dX2_takeExp_29 : decode cX2_takeExp 29 = .ok (.aload_n 0, 1) := by decide +kernel
theorem dX2_takeExp_30 : decode cX2_takeExp 30 = .ok (.lload_n 3, 1) := by decide +kernel
theorem dX2_takeExp_31 : decode cX2_takeExp 31 = .ok (.lload_n 3, 1) := by decide +kernel
theorem dX2_takeExp_32 : decode cX2_takeExp 32 = .ok (.invokevirtual 31, 3) := by decide +kernel
theorem dX2_takeExp_35 : decode cX2_takeExp 35 = .ok (.bipush 12, 2) := by decide +kernel
theorem dX2_takeExp_37 : decode cX2_takeExp 37 = .ok (.istore 5, 2) := by decide +kernel
theorem dX2_takeExp_39 : decode cX2_takeExp 39 = .ok (.iload 5, 2) := by decide +kernel
theorem dX2_takeExp_41 : decode cX2_takeExp 41 = .ok (.iconst 1, 1) := by decide +kernel
theorem dX2_takeExp_42 : decode cX2_takeExp 42 = .ok (.if_icmp .lt 44, 3) := by decide +kernel
theorem dX2_takeExp_45 : decode cX2_takeExp 45 = .ok (.aload_n 0, 1) := by decide +kernel
theorem dX2_takeExp_46 : decode cX2_takeExp 46 = .ok (.aload_n 1, 1) := by decide +kernel
theorem dX2_takeExp_47 : decode cX2_takeExp 47 = .ok (.aload_n 0, 1) := by decide +kernel
theorem dX2_takeExp_48 : decode cX2_takeExp 48 = .ok (.iload_n 2, 1) := by decide +kernel
theorem dX2_takeExp_49 : decode cX2_takeExp 49 = .ok (.invokevirtual 59, 3) := by decide +kernel
theorem dX2_takeExp_52 : decode cX2_takeExp 52 = .ok (.aload_n 0, 1) := by decide +kernel
theorem dX2_takeExp_53 : decode cX2_takeExp 53 = .ok (.aload_n 0, 1) := by decide +kernel
theorem dX2_takeExp_54 : decode cX2_takeExp 54 = .ok (.getfield 15, 3) := by decide +kernel
theorem dX2_takeExp_57 : decode cX2_takeExp 57 = .ok (.iload 5, 2) := by decide +kernel
theorem dX2_takeExp_59 : decode cX2_takeExp 59 = .ok (.i2l, 1) := by decide +kernel
theorem dX2_takeExp_60 : decode cX2_takeExp 60 = .ok (.invokestatic 46, 3) := by decide +kernel
theorem dX2_takeExp_63 : decode cX2_takeExp 63 = .ok (.lload_n 3, 1) := by decide +kernel
theorem dX2_takeExp_64 : decode cX2_takeExp 64 = .ok (.ladd, 1) := by decide +kernel
theorem dX2_takeExp_65 : decode cX2_takeExp 65 = .ok (.aload_n 0, 1) := by decide +kernel
theorem dX2_takeExp_66 : decode cX2_takeExp 66 = .ok (.getfield 19, 3) := by decide +kernel
theorem dX2_takeExp_69 : decode cX2_takeExp 69 = .ok (.iload 5, 2) := by decide +kernel
theorem dX2_takeExp_71 : decode cX2_takeExp 71 = .ok (.i2l, 1) := by decide +kernel
theorem dX2_takeExp_72 : decode cX2_takeExp 72 = .ok (.invokestatic 49, 3) := by decide +kernel
theorem dX2_takeExp_75 : decode cX2_takeExp 75 = .ok (.lload_n 3, 1) := by decide +kernel
theorem dX2_takeExp_76 : decode cX2_takeExp 76 = .ok (.ladd, 1) := by decide +kernel
theorem dX2_takeExp_77 : decode cX2_takeExp 77 = .ok (.invokevirtual 31, 3) := by decide +kernel
theorem dX2_takeExp_80 : decode cX2_takeExp 80 = .ok (.iinc 5 (-1), 3) := by decide +kernel
theorem dX2_takeExp_83 : decode cX2_takeExp 83 = .ok (.goto (-44), 3) := by decide +kernel
theorem dX2_takeExp_86 : decode cX2_takeExp 86 = .ok (.aload_n 0, 1) := by decide +kernel
theorem dX2_takeExp_87 : decode cX2_takeExp 87 = .ok (.aload_n 0, 1) := by decide +kernel
theorem dX2_takeExp_88 : decode cX2_takeExp 88 = .ok (.getfield 15, 3) := by decide +kernel
theorem dX2_takeExp_91 : decode cX2_takeExp 91 = .ok (.lconst 1, 1) := by decide +kernel
theorem dX2_takeExp_92 : decode cX2_takeExp 92 = .ok (.lsub, 1) := by decide +kernel
theorem dX2_takeExp_93 : decode cX2_takeExp 93 = .ok (.aload_n 0, 1) := by decide +kernel
theorem dX2_takeExp_94 : decode cX2_takeExp 94 = .ok (.getfield 19, 3) := by decide +kernel
theorem dX2_takeExp_97 : decode cX2_takeExp 97 = .ok (.lconst 1, 1) := by decide +kernel
theorem dX2_takeExp_98 : decode cX2_takeExp 98 = .ok (.ladd, 1) := by decide +kernel
theorem dX2_takeExp_99 : decode cX2_takeExp 99 = .ok (.invokevirtual 31, 3) := by decide +kernel
theorem dX2_takeExp_102 : decode cX2_takeExp 102 = .ok (.return_, 1) := by decide +kernel
theorem dX4_init_0 : decode cX4_init 0 = .ok (.aload_n 0, 1) := by decide +kernel
theorem dX4_init_1 : decode cX4_init 1 = .ok (.invokespecial 1, 3) := by decide +kernel
theorem dX4_init_4 : decode cX4_init 4 = .ok (.aload_n 0, 1) := by decide +kernel
theorem dX4_init_5 : decode cX4_init 5 = .ok (.iload_n 1, 1) := by decide +kernel
theorem dX4_init_6 : decode cX4_init 6 = .ok (.i2l, 1) := by decide +kernel
theorem dX4_init_7 : decode cX4_init 7 = .ok (.putfield 7, 3) := by decide +kernel
theorem dX4_init_10 : decode cX4_init 10 = .ok (.aload_n 0, 1) := by decide +kernel
theorem dX4_init_11 : decode cX4_init 11 = .ok (.iload_n 2, 1) := by decide +kernel
theorem dX4_init_12 : decode cX4_init 12 = .ok (.i2l, 1) := by decide +kernel
theorem dX4_init_13 : decode cX4_init 13 = .ok (.putfield 13, 3) := by decide +kernel
theorem dX4_init_16 : decode cX4_init 16 = .ok (.aload_n 0, 1) := by decide +kernel
theorem dX4_init_17 : decode cX4_init 17 = .ok (.iload_n 3, 1) := by decide +kernel
theorem dX4_init_18 : decode cX4_init 18 = .ok (.i2l, 1) := by decide +kernel
theorem dX4_init_19 : decode cX4_init 19 = .ok (.putfield 16, 3) := by decide +kernel
theorem dX4_init_22 : decode cX4_init 22 = .ok (.aload_n 0, 1) := by decide +kernel
theorem dX4_init_23 : decode cX4_init 23 = .ok (.iload 4, 2) := by decide +kernel
theorem dX4_init_25 : decode cX4_init 25 = .ok (.i2l, 1) := by decide +kernel
theorem dX4_init_26 : decode cX4_init 26 = .ok (.putfield 19, 3) := by decide +kernel
theorem dX4_init_29 : decode cX4_init 29 = .ok (.return_, 1) := by decide +kernel
set_option maxRecDepth 20000 in
theorem ggX4_signAt_X7_unitsAt : GoodIn wsX4_signAt wsX7_unitsAt := goodIn_r _ [7] (by decide +kernel) (by decide +kernel)
set_option maxRecDepth 20000 in
theorem gX4_signAt_X7_unitsAt_n22 : GoodIn wsX4_signAt (wsX7_unitsAt) := ggX4_signAt_X7_unitsAt
set_option maxRecDepth 20000 in
theorem ggX4_signAt_J13_signum_95d88 : GoodIn wsX4_signAt wsJ13_signum_95d88 := goodIn_r _ [11] (by decide +kernel) (by decide +kernel)
set_option maxRecDepth 20000 in
theorem gX4_signAt_J13_signum_95d88 : GoodIn wsX4_signAt (va_wsS RX4 28 yJ13_signum_95d88 wsJ13_signum_95d88) := goodIn_app (goodIn_of _ (by decide +kernel)) ggX4_signAt_J13_signum_95d88
theorem dX4_signAt_0 : decode cX4_signAt 0 = .ok (.iload_n 3, 1) := by decide +kernel
theorem dX4_signAt_1 : decode cX4_signAt 1 = .ok (.invokestatic 22, 3) := by decide +kernel
theorem dX4_signAt_4 : decode cX4_signAt 4 = .ok (.lstore 4, 2) := by decide +kernel
theorem dX4_signAt_6 : decode cX4_signAt 6 = .ok (.aload_n 0, 1) := by decide +kernel
theorem dX4_signAt_7 : decode cX4_signAt 7 = .ok (.getfield 19, 3) := by decide +kernel
theorem dX4_signAt_10 : decode cX4_signAt 10 = .ok (.lload_n 1, 1) := by decide +kernel
theorem dX4_signAt_11 : decode cX4_signAt 11 = .ok (.lmul, 1) := by decide +kernel
theorem dX4_signAt_12 : decode cX4_signAt 12 = .ok (.aload_n 0, 1) := by decide +kernel
theorem dX4_signAt_13 : decode cX4_signAt 13 = .ok (.getfield 16, 3) := by decide +kernel
theorem dX4_signAt_16 : decode cX4_signAt 16 = .ok (.lload 4, 2) := by decide +kernel
theorem dX4_signAt_18 : decode cX4_signAt 18 = .ok (.lmul, 1) := by decide +kernel
theorem dX4_signAt_19 : decode cX4_signAt 19 = .ok (.ladd, 1) := by decide +kernel
theorem dX4_signAt_20 : decode cX4_signAt 20 = .ok (.lload_n 1, 1) := by decide +kernel
theorem dX4_signAt_21 : decode cX4_signAt 21 = .ok (.lmul, 1) := by decide +kernel
theorem dX4_signAt_22 : decode cX4_signAt 22 = .ok (.aload_n 0, 1) := by decide +kernel
theorem dX4_signAt_23 : decode cX4_signAt 23 = .ok (.getfield 13, 3) := by decide +kernel
theorem dX4_signAt_26 : decode cX4_signAt 26 = .ok (.lload 4, 2) := by decide +kernel
theorem dX4_signAt_28 : decode cX4_signAt 28 = .ok (.lmul, 1) := by decide +kernel
theorem dX4_signAt_29 : decode cX4_signAt 29 = .ok (.lload 4, 2) := by decide +kernel
theorem dX4_signAt_31 : decode cX4_signAt 31 = .ok (.lmul, 1) := by decide +kernel
theorem dX4_signAt_32 : decode cX4_signAt 32 = .ok (.ladd, 1) := by decide +kernel
theorem dX4_signAt_33 : decode cX4_signAt 33 = .ok (.lload_n 1, 1) := by decide +kernel
theorem dX4_signAt_34 : decode cX4_signAt 34 = .ok (.lmul, 1) := by decide +kernel
theorem dX4_signAt_35 : decode cX4_signAt 35 = .ok (.aload_n 0, 1) := by decide +kernel
theorem dX4_signAt_36 : decode cX4_signAt 36 = .ok (.getfield 7, 3) := by decide +kernel
theorem dX4_signAt_39 : decode cX4_signAt 39 = .ok (.lload 4, 2) := by decide +kernel
theorem dX4_signAt_41 : decode cX4_signAt 41 = .ok (.lmul, 1) := by decide +kernel
theorem dX4_signAt_42 : decode cX4_signAt 42 = .ok (.lload 4, 2) := by decide +kernel
theorem dX4_signAt_44 : decode cX4_signAt 44 = .ok (.lmul, 1) := by decide +kernel
theorem dX4_signAt_45 : decode cX4_signAt 45 = .ok (.lload 4, 2) := by decide +kernel
theorem dX4_signAt_47 : decode cX4_signAt 47 = .ok (.lmul, 1) := by decide +kernel
theorem dX4_signAt_48 : decode cX4_signAt 48 = .ok (.ladd, 1) := by decide +kernel
theorem dX4_signAt_49 : decode cX4_signAt 49 = .ok (.lstore 6, 2) := by decide +kernel
theorem dX4_signAt_51 : decode cX4_signAt 51 = .ok (.lload 6, 2) := by decide +kernel
theorem dX4_signAt_53 : decode cX4_signAt 53 = .ok (.invokestatic 28, 3) := by decide +kernel
theorem dX4_signAt_56 : decode cX4_signAt 56 = .ok (.ireturn, 1) := by decide +kernel
set_option maxRecDepth 20000 in
theorem ggX5_init_X6_init : GoodIn wsX5_init wsX6_init := goodIn_r _ [17, 18, 2, 3, 19, 20, 21, 22, 23, 32, 33, 34] (by decide +kernel) (by decide +kernel)
set_option maxRecDepth 20000 in
theorem gX5_init_X6_init : GoodIn wsX5_init (wsX6_init) := ggX5_init_X6_init
theorem dX5_init_0 : decode cX5_init 0 = .ok (.aload_n 0, 1) := by decide +kernel
theorem dX5_init_1 : decode cX5_init 1 = .ok (.invokespecial 3, 3) := by decide +kernel
theorem dX5_init_4 : decode cX5_init 4 = .ok (.aload_n 0, 1) := by decide +kernel
theorem dX5_init_5 : decode cX5_init 5 = .ok (.aload_n 1, 1) := by decide +kernel
theorem dX5_init_6 : decode cX5_init 6 = .ok (.putfield 9, 3) := by decide +kernel
theorem dX5_init_9 : decode cX5_init 9 = .ok (.aload_n 0, 1) := by decide +kernel
theorem dX5_init_10 : decode cX5_init 10 = .ok (.iload_n 2, 1) := by decide +kernel
theorem dX5_init_11 : decode cX5_init 11 = .ok (.putfield 15, 3) := by decide +kernel
theorem dX5_init_14 : decode cX5_init 14 = .ok (.aload_n 0, 1) := by decide +kernel
theorem dX5_init_15 : decode cX5_init 15 = .ok (.iload_n 3, 1) := by decide +kernel
theorem dX5_init_16 : decode cX5_init 16 = .ok (.putfield 19, 3) := by decide +kernel
theorem dX5_init_19 : decode cX5_init 19 = .ok (.aload_n 0, 1) := by decide +kernel
theorem dX5_init_20 : decode cX5_init 20 = .ok (.lload 4, 2) := by decide +kernel
theorem dX5_init_22 : decode cX5_init 22 = .ok (.putfield 22, 3) := by decide +kernel
theorem dX5_init_25 : decode cX5_init 25 = .ok (.aload_n 0, 1) := by decide +kernel
theorem dX5_init_26 : decode cX5_init 26 = .ok (.new 26, 3) := by decide +kernel
theorem dX5_init_29 : decode cX5_init 29 = .ok (.dup, 1) := by decide +kernel
theorem dX5_init_30 : decode cX5_init 30 = .ok (.bipush 25, 2) := by decide +kernel
theorem dX5_init_32 : decode cX5_init 32 = .ok (.invokespecial 28, 3) := by decide +kernel
theorem dX5_init_35 : decode cX5_init 35 = .ok (.putfield 31, 3) := by decide +kernel
theorem dX5_init_38 : decode cX5_init 38 = .ok (.aload_n 0, 1) := by decide +kernel
theorem dX5_init_39 : decode cX5_init 39 = .ok (.new 26, 3) := by decide +kernel
theorem dX5_init_42 : decode cX5_init 42 = .ok (.dup, 1) := by decide +kernel
theorem dX5_init_43 : decode cX5_init 43 = .ok (.bipush 25, 2) := by decide +kernel
theorem dX5_init_45 : decode cX5_init 45 = .ok (.invokespecial 28, 3) := by decide +kernel
theorem dX5_init_48 : decode cX5_init 48 = .ok (.putfield 35, 3) := by decide +kernel
theorem dX5_init_51 : decode cX5_init 51 = .ok (.aload_n 0, 1) := by decide +kernel
theorem dX5_init_52 : decode cX5_init 52 = .ok (.iconst 0, 1) := by decide +kernel
theorem dX5_init_53 : decode cX5_init 53 = .ok (.putfield 38, 3) := by decide +kernel
theorem dX5_init_56 : decode cX5_init 56 = .ok (.aload_n 0, 1) := by decide +kernel
theorem dX5_init_57 : decode cX5_init 57 = .ok (.lconst 0, 1) := by decide +kernel
theorem dX5_init_58 : decode cX5_init 58 = .ok (.putfield 41, 3) := by decide +kernel
theorem dX5_init_61 : decode cX5_init 61 = .ok (.return_, 1) := by decide +kernel
theorem dX5_isMadeOf_0 : decode cX5_isMadeOf 0 = .ok (.aload_n 0, 1) := by decide +kernel
theorem dX5_isMadeOf_1 : decode cX5_isMadeOf 1 = .ok (.getfield 22, 3) := by decide +kernel
theorem dX5_isMadeOf_4 : decode cX5_isMadeOf 4 = .ok (.iload_n 1, 1) := by decide +kernel
theorem dX5_isMadeOf_5 : decode cX5_isMadeOf 5 = .ok (.lshr, 1) := by decide +kernel
theorem dX5_isMadeOf_6 : decode cX5_isMadeOf 6 = .ok (.lconst 1, 1) := by decide +kernel
theorem dX5_isMadeOf_7 : decode cX5_isMadeOf 7 = .ok (.land, 1) := by decide +kernel
theorem dX5_isMadeOf_8 : decode cX5_isMadeOf 8 = .ok (.lconst 1, 1) := by decide +kernel
theorem dX5_isMadeOf_9 : decode cX5_isMadeOf 9 = .ok (.lcmp, 1) := by decide +kernel
theorem dX5_isMadeOf_10 : decode cX5_isMadeOf 10 = .ok (.ifCond .ne 7, 3) := by decide +kernel
theorem dX5_isMadeOf_13 : decode cX5_isMadeOf 13 = .ok (.iconst 1, 1) := by decide +kernel
theorem dX5_isMadeOf_14 : decode cX5_isMadeOf 14 = .ok (.goto 4, 3) := by decide +kernel
theorem dX5_isMadeOf_17 : decode cX5_isMadeOf 17 = .ok (.iconst 0, 1) := by decide +kernel
theorem dX5_isMadeOf_18 : decode cX5_isMadeOf 18 = .ok (.ireturn, 1) := by decide +kernel
theorem dX6_init_0 : decode cX6_init 0 = .ok (.aload_n 0, 1) := by decide +kernel
theorem dX6_init_1 : decode cX6_init 1 = .ok (.invokespecial 1, 3) := by decide +kernel
theorem dX6_init_4 : decode cX6_init 4 = .ok (.iload_n 1, 1) := by decide +kernel
theorem dX6_init_5 : decode cX6_init 5 = .ok (.ifCond .ge 7, 3) := by decide +kernel
theorem dX6_init_8 : decode cX6_init 8 = .ok (.iconst 0, 1) := by decide +kernel
theorem dX6_init_9 : decode cX6_init 9 = .ok (.goto 4, 3) := by decide +kernel
theorem dX6_init_12 : decode cX6_init 12 = .ok (.iload_n 1, 1) := by decide +kernel
theorem dX6_init_13 : decode cX6_init 13 = .ok (.istore_n 2, 1) := by decide +kernel
theorem dX6_init_14 : decode cX6_init 14 = .ok (.aload_n 0, 1) := by decide +kernel
theorem dX6_init_15 : decode cX6_init 15 = .ok (.iload_n 2, 1) := by decide +kernel
theorem dX6_init_16 : decode cX6_init 16 = .ok (.newarray .boolean, 2) := by decide +kernel
theorem dX6_init_18 : decode cX6_init 18 = .ok (.putfield 7, 3) := by decide +kernel
theorem dX6_init_21 : decode cX6_init 21 = .ok (.aload_n 0, 1) := by decide +kernel
theorem dX6_init_22 : decode cX6_init 22 = .ok (.iload_n 2, 1) := by decide +kernel
theorem dX6_init_23 : decode cX6_init 23 = .ok (.newarray .long, 2) := by decide +kernel
theorem dX6_init_25 : decode cX6_init 25 = .ok (.putfield 13, 3) := by decide +kernel
theorem dX6_init_28 : decode cX6_init 28 = .ok (.aload_n 0, 1) := by decide +kernel
theorem dX6_init_29 : decode cX6_init 29 = .ok (.iload_n 2, 1) := by decide +kernel
theorem dX6_init_30 : decode cX6_init 30 = .ok (.newarray .long, 2) := by decide +kernel
theorem dX6_init_32 : decode cX6_init 32 = .ok (.putfield 17, 3) := by decide +kernel
theorem dX6_init_35 : decode cX6_init 35 = .ok (.return_, 1) := by decide +kernel
theorem dX6_put_0 : decode cX6_put 0 = .ok (.iload_n 1, 1) := by decide +kernel
theorem dX6_put_1 : decode cX6_put 1 = .ok (.ifCond .lt 42, 3) := by decide +kernel
theorem dX6_put_4 : decode cX6_put 4 = .ok (.iload_n 1, 1) := by decide +kernel
theorem dX6_put_5 : decode cX6_put 5 = .ok (.aload_n 0, 1) := by decide +kernel
theorem dX6_put_6 : decode cX6_put 6 = .ok (.getfield 13, 3) := by decide +kernel
theorem dX6_put_9 : decode cX6_put 9 = .ok (.arraylength, 1) := by decide +kernel
theorem dX6_put_10 : decode cX6_put 10 = .ok (.if_icmp .ge 33, 3) := by decide +kernel
theorem dX6_put_13 : decode cX6_put 13 = .ok (.aload_n 0, 1) := by decide +kernel
theorem dX6_put_14 : decode cX6_put 14 = .ok (.getfield 7, 3) := by decide +kernel
theorem dX6_put_17 : decode cX6_put 17 = .ok (.iload_n 1, 1) := by decide +kernel
theorem dX6_put_18 : decode cX6_put 18 = .ok (.aload_n 2, 1) := by decide +kernel
theorem dX6_put_19 : decode cX6_put 19 = .ok (.getfield 20, 3) := by decide +kernel
theorem dX6_put_22 : decode cX6_put 22 = .ok (.bastore, 1) := by decide +kernel
theorem dX6_put_23 : decode cX6_put 23 = .ok (.aload_n 0, 1) := by decide +kernel
theorem dX6_put_24 : decode cX6_put 24 = .ok (.getfield 13, 3) := by decide +kernel
theorem dX6_put_27 : decode cX6_put 27 = .ok (.iload_n 1, 1) := by decide +kernel
theorem dX6_put_28 : decode cX6_put 28 = .ok (.aload_n 2, 1) := by decide +kernel
theorem dX6_put_29 : decode cX6_put 29 = .ok (.getfield 25, 3) := by decide +kernel
theorem dX6_put_32 : decode cX6_put 32 = .ok (.lastore, 1) := by decide +kernel
theorem dX6_put_33 : decode cX6_put 33 = .ok (.aload_n 0, 1) := by decide +kernel
theorem dX6_put_34 : decode cX6_put 34 = .ok (.getfield 17, 3) := by decide +kernel
theorem dX6_put_37 : decode cX6_put 37 = .ok (.iload_n 1, 1) := by decide +kernel
theorem dX6_put_38 : decode cX6_put 38 = .ok (.aload_n 2, 1) := by decide +kernel
theorem dX6_put_39 : decode cX6_put 39 = .ok (.getfield 28, 3) := by decide +kernel
theorem dX6_put_42 : decode cX6_put 42 = .ok (.lastore, 1) := by decide +kernel
theorem dX6_put_43 : decode cX6_put 43 = .ok (.return_, 1) := by decide +kernel
set_option maxRecDepth 20000 in
theorem ggX6_load_X2_clear : GoodIn wsX6_load wsX2_clear := goodIn_r _ [8, 9, 10, 11, 19, 20, 21] (by decide +kernel) (by decide +kernel)
set_option maxRecDepth 20000 in
theorem gX6_load_X2_clear : GoodIn wsX6_load (wsV RX6 30 RX2 yX2_clear wsX2_clear) := goodIn_app (goodIn_of _ (by decide +kernel)) ggX6_load_X2_clear
set_option maxRecDepth 20000 in
theorem ggX6_load_X2_assign : GoodIn wsX6_load wsX2_assign := goodIn_r _ [15, 9, 10, 11, 19, 20, 21] (by decide +kernel) (by decide +kernel)
set_option maxRecDepth 20000 in
theorem gX6_load_X2_assign : GoodIn wsX6_load (wsV RX6 33 RX2 yX2_assign wsX2_assign) := goodIn_app (goodIn_of _ (by decide +kernel)) ggX6_load_X2_assign
theorem dX6_load_0 : decode cX6_load 0 = .ok (.aload_n 2, 1) := by decide +kernel
theorem dX6_load_1 : decode cX6_load 1 = .ok (.invokevirtual 30, 3) := by decide +kernel
theorem dX6_load_4 : decode cX6_load 4 = .ok (.iload_n 1, 1) := by decide +kernel
theorem dX6_load_5 : decode cX6_load 5 = .ok (.ifCond .lt 37, 3) := by decide +kernel
theorem dX6_load_8 : decode cX6_load 8 = .ok (.iload_n 1, 1) := by decide +kernel
theorem dX6_load_9 : decode cX6_load 9 = .ok (.aload_n 0, 1) := by decide +kernel
theorem dX6_load_10 : decode cX6_load 10 = .ok (.getfield 13, 3) := by decide +kernel
theorem dX6_load_13 : decode cX6_load 13 = .ok (.arraylength, 1) := by decide +kernel
theorem dX6_load_14 : decode cX6_load 14 = .ok (.if_icmp .ge 28, 3) := by decide +kernel
theorem dX6_load_17 : decode cX6_load 17 = .ok (.aload_n 0, 1) := by decide +kernel
theorem dX6_load_18 : decode cX6_load 18 = .ok (.getfield 7, 3) := by decide +kernel
theorem dX6_load_21 : decode cX6_load 21 = .ok (.iload_n 1, 1) := by decide +kernel
theorem dX6_load_22 : decode cX6_load 22 = .ok (.baload, 1) := by decide +kernel
theorem dX6_load_23 : decode cX6_load 23 = .ok (.ifCond .eq 19, 3) := by decide +kernel
theorem dX6_load_26 : decode cX6_load 26 = .ok (.aload_n 2, 1) := by decide +kernel
theorem dX6_load_27 : decode cX6_load 27 = .ok (.aload_n 0, 1) := by decide +kernel
theorem dX6_load_28 : decode cX6_load 28 = .ok (.getfield 13, 3) := by decide +kernel
theorem dX6_load_31 : decode cX6_load 31 = .ok (.iload_n 1, 1) := by decide +kernel
theorem dX6_load_32 : decode cX6_load 32 = .ok (.laload, 1) := by decide +kernel
theorem dX6_load_33 : decode cX6_load 33 = .ok (.aload_n 0, 1) := by decide +kernel
theorem dX6_load_34 : decode cX6_load 34 = .ok (.getfield 17, 3) := by decide +kernel
theorem dX6_load_37 : decode cX6_load 37 = .ok (.iload_n 1, 1) := by decide +kernel
theorem dX6_load_38 : decode cX6_load 38 = .ok (.laload, 1) := by decide +kernel
theorem dX6_load_39 : decode cX6_load 39 = .ok (.invokevirtual 33, 3) := by decide +kernel
theorem dX6_load_42 : decode cX6_load 42 = .ok (.return_, 1) := by decide +kernel
set_option maxRecDepth 20000 in
theorem ggX7_init_X2_init : GoodIn wsX7_init wsX2_init := goodIn_r _ [23, 24, 2, 3] (by decide +kernel) (by decide +kernel)
set_option maxRecDepth 20000 in
theorem gX7_init_X2_init_n21 : GoodIn wsX7_init (wsX2_init) := ggX7_init_X2_init
set_option maxRecDepth 20000 in
theorem ggX7_init_X6_init : GoodIn wsX7_init wsX6_init := goodIn_r _ [27, 28, 2, 3, 29, 30, 31, 32, 33, 48, 49, 50] (by decide +kernel) (by decide +kernel)
set_option maxRecDepth 20000 in
theorem gX7_init_X6_init : GoodIn wsX7_init (wsX6_init) := ggX7_init_X6_init
set_option maxRecDepth 20000 in
theorem ggX7_init_X1_init : GoodIn wsX7_init wsX1_init := goodIn_r _ [35, 36, 2, 3] (by decide +kernel) (by decide +kernel)
set_option maxRecDepth 20000 in
theorem gX7_init_X1_init_n43 : GoodIn wsX7_init (wsX1_init) := ggX7_init_X1_init
theorem dX7_init_0 : decode cX7_init 0 = .ok (.aload_n 0, 1) := by decide +kernel
theorem dX7_init_1 : decode cX7_init 1 = .ok (.invokespecial 1, 3) := by decide +kernel
theorem dX7_init_4 : decode cX7_init 4 = .ok (.aload_n 0, 1) := by decide +kernel
theorem dX7_init_5 : decode cX7_init 5 = .ok (.bipush 40, 2) := by decide +kernel
theorem dX7_init_7 : decode cX7_init 7 = .ok (.anewarray 9, 3) := by decide +kernel
theorem dX7_init_10 : decode cX7_init 10 = .ok (.putfield 11, 3) := by decide +kernel
theorem dX7_init_13 : decode cX7_init 13 = .ok (.aload_n 0, 1) := by decide +kernel
theorem dX7_init_14 : decode cX7_init 14 = .ok (.iconst 0, 1) := by decide +kernel
theorem dX7_init_15 : decode cX7_init 15 = .ok (.putfield 15, 3) := by decide +kernel
theorem dX7_init_18 : decode cX7_init 18 = .ok (.aload_n 0, 1) := by decide +kernel
theorem dX7_init_19 : decode cX7_init 19 = .ok (.new 19, 3) := by decide +kernel
theorem dX7_init_22 : decode cX7_init 22 = .ok (.dup, 1) := by decide +kernel
theorem dX7_init_23 : decode cX7_init 23 = .ok (.invokespecial 21, 3) := by decide +kernel
theorem dX7_init_26 : decode cX7_init 26 = .ok (.putfield 22, 3) := by decide +kernel
theorem dX7_init_29 : decode cX7_init 29 = .ok (.aload_n 0, 1) := by decide +kernel
theorem dX7_init_30 : decode cX7_init 30 = .ok (.new 19, 3) := by decide +kernel
theorem dX7_init_33 : decode cX7_init 33 = .ok (.dup, 1) := by decide +kernel
theorem dX7_init_34 : decode cX7_init 34 = .ok (.invokespecial 21, 3) := by decide +kernel
theorem dX7_init_37 : decode cX7_init 37 = .ok (.putfield 26, 3) := by decide +kernel
theorem dX7_init_40 : decode cX7_init 40 = .ok (.aload_n 0, 1) := by decide +kernel
theorem dX7_init_41 : decode cX7_init 41 = .ok (.new 19, 3) := by decide +kernel
theorem dX7_init_44 : decode cX7_init 44 = .ok (.dup, 1) := by decide +kernel
theorem dX7_init_45 : decode cX7_init 45 = .ok (.invokespecial 21, 3) := by decide +kernel
theorem dX7_init_48 : decode cX7_init 48 = .ok (.putfield 29, 3) := by decide +kernel
theorem dX7_init_51 : decode cX7_init 51 = .ok (.aload_n 0, 1) := by decide +kernel
theorem dX7_init_52 : decode cX7_init 52 = .ok (.new 32, 3) := by decide +kernel
theorem dX7_init_55 : decode cX7_init 55 = .ok (.dup, 1) := by decide +kernel
theorem dX7_init_56 : decode cX7_init 56 = .ok (.bipush 40, 2) := by decide +kernel
theorem dX7_init_58 : decode cX7_init 58 = .ok (.invokespecial 34, 3) := by decide +kernel
theorem dX7_init_61 : decode cX7_init 61 = .ok (.putfield 37, 3) := by decide +kernel
theorem dX7_init_64 : decode cX7_init 64 = .ok (.aload_n 0, 1) := by decide +kernel
theorem dX7_init_65 : decode cX7_init 65 = .ok (.new 41, 3) := by decide +kernel
theorem dX7_init_68 : decode cX7_init 68 = .ok (.dup, 1) := by decide +kernel
theorem dX7_init_69 : decode cX7_init 69 = .ok (.invokespecial 43, 3) := by decide +kernel
theorem dX7_init_72 : decode cX7_init 72 = .ok (.putfield 44, 3) := by decide +kernel
theorem dX7_init_75 : decode cX7_init 75 = .ok (.aload_n 0, 1) := by decide +kernel
theorem dX7_init_76 : decode cX7_init 76 = .ok (.new 41, 3) := by decide +kernel
theorem dX7_init_79 : decode cX7_init 79 = .ok (.dup, 1) := by decide +kernel
theorem dX7_init_80 : decode cX7_init 80 = .ok (.invokespecial 43, 3) := by decide +kernel
theorem dX7_init_83 : decode cX7_init 83 = .ok (.putfield 48, 3) := by decide +kernel
theorem dX7_init_86 : decode cX7_init 86 = .ok (.return_, 1) := by decide +kernel
set_option maxRecDepth 20000 in
theorem ggX7_ratio_X7_requireWithin : GoodIn wsX7_ratio wsX7_requireWithin := goodIn_ca (goodIn_r _ [10, 11, 12] (by decide +kernel) (by decide +kernel)) (goodIn_sub (fun _ h => List.mem_cons_of_mem _ (List.mem_append_left _ (List.mem_append_right _ h))) (by decide +kernel))
set_option maxRecDepth 20000 in
theorem gX7_ratio_X7_requireWithin : GoodIn wsX7_ratio (va_wsS RX7 51 yX7_requireWithin wsX7_requireWithin) := goodIn_app (goodIn_of _ (by decide +kernel)) ggX7_ratio_X7_requireWithin
set_option maxRecDepth 20000 in
theorem ggX7_ratio_X7_requireRoom : GoodIn wsX7_ratio wsX7_requireRoom := goodIn_ca (goodIn_r _ [16, 17, 18, 19, 20, 122, 123, 124, 125, 126, 127, 128, 129] (by decide +kernel) (by decide +kernel)) (goodIn_sub (fun _ h => List.mem_cons_of_mem _ (List.mem_append_right _ h)) (by decide +kernel))
set_option maxRecDepth 20000 in
theorem gX7_ratio_X7_requireRoom : GoodIn wsX7_ratio (wsV RX7 55 RX7 yX7_requireRoom wsX7_requireRoom) := goodIn_app (goodIn_of _ (by decide +kernel)) ggX7_ratio_X7_requireRoom
set_option maxRecDepth 20000 in
theorem ggX7_ratio_X7_ownBit : GoodIn wsX7_ratio wsX7_ownBit := goodIn_r _ [24, 19, 122, 123, 124, 125, 126, 127, 128, 129] (by decide +kernel) (by decide +kernel)
set_option maxRecDepth 20000 in
theorem gX7_ratio_X7_ownBit : GoodIn wsX7_ratio (wsV RX7 64 RX7 yX7_ownBit wsX7_ownBit) := goodIn_app (goodIn_of _ (by decide +kernel)) ggX7_ratio_X7_ownBit
set_option maxRecDepth 20000 in
theorem ggX7_ratio_X5_init : GoodIn wsX7_ratio wsX5_init := goodIn_r _ [27, 28, 29, 30, 31, 32, 33, 34, 35, 36, 37, 38, 39, 40, 41, 42, 43, 44, 45, 46, 47, 48, 49, 50, 114, 115, 116, 117, 118, 119, 120, 121, 130, 131, 132] (by decide +kernel) (by decide +kernel)
set_option maxRecDepth 20000 in
theorem gX7_ratio_X5_init : GoodIn wsX7_ratio (wsX5_init) := ggX7_ratio_X5_init
set_option maxRecDepth 20000 in
theorem ggX7_ratio_X7_unitsAt : GoodIn wsX7_ratio wsX7_unitsAt := goodIn_r _ [53] (by decide +kernel) (by decide +kernel)
set_option maxRecDepth 20000 in
theorem gX7_ratio_X7_unitsAt : GoodIn wsX7_ratio (va_wsS RX7 71 yX7_unitsAt wsX7_unitsAt) := goodIn_app (goodIn_of _ (by decide +kernel)) ggX7_ratio_X7_unitsAt
set_option maxRecDepth 20000 in
theorem ggX7_ratio_X7_cut : GoodIn wsX7_ratio wsX7_cut := goodIn_r _ [56, 57, 58, 59, 60] (by decide +kernel) (by decide +kernel)
set_option maxRecDepth 20000 in
theorem gX7_ratio_X7_cut : GoodIn wsX7_ratio (va_wsS RX7 75 yX7_cut wsX7_cut) := goodIn_app (goodIn_of _ (by decide +kernel)) ggX7_ratio_X7_cut
set_option maxRecDepth 20000 in
theorem ggX7_ratio_X7_fill : GoodIn wsX7_ratio wsX7_fill := goodIn_r _ [63, 57, 58, 59, 60] (by decide +kernel) (by decide +kernel)
set_option maxRecDepth 20000 in
theorem gX7_ratio_X7_fill : GoodIn wsX7_ratio (va_wsS RX7 79 yX7_fill wsX7_fill) := goodIn_app (goodIn_of _ (by decide +kernel)) ggX7_ratio_X7_fill
set_option maxRecDepth 20000 in
theorem ggX7_ratio_X2_assign : GoodIn wsX7_ratio wsX2_assign := goodIn_r _ [68, 69, 70, 71, 133, 134, 135] (by decide +kernel) (by decide +kernel)
set_option maxRecDepth 20000 in
theorem gX7_ratio_X2_assign : GoodIn wsX7_ratio (wsV RX7 82 RX2 yX2_assign wsX2_assign) := goodIn_app (goodIn_of _ (by decide +kernel)) ggX7_ratio_X2_assign
set_option maxRecDepth 20000 in
theorem ggX7_ratio_X2_dropBeyondReach : GoodIn wsX7_ratio wsX2_dropBeyondReach := goodIn_r _ [75, 76, 70, 71, 52, 9, 53, 77, 78, 79, 67, 80, 69, 133, 134, 135] (by decide +kernel) (by decide +kernel)
set_option maxRecDepth 20000 in
theorem gX7_ratio_X2_dropBeyondReach : GoodIn wsX7_ratio (wsV RX7 86 RX2 yX2_dropBeyondReach wsX2_dropBeyondReach) := goodIn_app (goodIn_of _ (by decide +kernel)) ggX7_ratio_X2_dropBeyondReach
set_option maxRecDepth 20000 in
theorem ggX7_ratio_X6_put : GoodIn wsX7_ratio wsX6_put := goodIn_r _ [84, 49, 47, 85, 86, 50, 87, 130, 131, 132, 133, 134, 135] (by decide +kernel) (by decide +kernel)
set_option maxRecDepth 20000 in
theorem gX7_ratio_X6_put : GoodIn wsX7_ratio (wsV RX7 92 RX6 yX6_put wsX6_put) := goodIn_app (goodIn_of _ (by decide +kernel)) ggX7_ratio_X6_put
set_option maxRecDepth 20000 in
theorem ggX7_ratio_X7_add : GoodIn wsX7_ratio wsX7_add := goodIn_r _ [91, 5, 6, 92, 93, 19, 20, 94, 78, 79, 67, 80, 69, 70, 71, 95, 96, 97, 37, 98, 49, 47, 50, 99, 100, 65, 66, 68, 101, 102, 103, 104, 105, 106, 107, 108, 109, 110, 111, 112, 113, 81, 82, 83, 84, 85, 86, 87, 122, 123, 124, 125, 126, 127, 128, 129, 114, 115, 116, 117, 118, 119, 120, 121, 133, 134, 135, 130, 131, 132] (by decide +kernel) (by decide +kernel)
set_option maxRecDepth 20000 in
theorem gX7_ratio_X7_add : GoodIn wsX7_ratio (wsV RX7 96 RX7 yX7_add wsX7_add) := goodIn_app (goodIn_of _ (by decide +kernel)) ggX7_ratio_X7_add
theorem dX7_ratio_0 : decode cX7_ratio 0 = .ok (.iload_n 1, 1) := by decide +kernel
theorem dX7_ratio_1 : decode cX7_ratio 1 = .ok (.sipush (-1000), 3) := by decide +kernel
theorem dX7_ratio_4 : decode cX7_ratio 4 = .ok (.sipush 1000, 3) := by decide +kernel
theorem dX7_ratio_7 : decode cX7_ratio 7 = .ok (.invokestatic 51, 3) := by decide +kernel
theorem dX7_ratio_10 : decode cX7_ratio 10 = .ok (.iload_n 2, 1) := by decide +kernel
theorem dX7_ratio_11 : decode cX7_ratio 11 = .ok (.iconst 1, 1) := by decide +kernel
theorem dX7_ratio_12 : decode cX7_ratio 12 = .ok (.sipush 1000, 3) := by decide +kernel
theorem dX7_ratio_15 : decode cX7_ratio 15 = .ok (.invokestatic 51, 3) := by decide +kernel
theorem dX7_ratio_18 : decode cX7_ratio 18 = .ok (.aload_n 0, 1) := by decide +kernel
theorem dX7_ratio_19 : decode cX7_ratio 19 = .ok (.invokevirtual 55, 3) := by decide +kernel
theorem dX7_ratio_22 : decode cX7_ratio 22 = .ok (.new 9, 3) := by decide +kernel
theorem dX7_ratio_25 : decode cX7_ratio 25 = .ok (.dup, 1) := by decide +kernel
theorem dX7_ratio_26 : decode cX7_ratio 26 = .ok (.getstatic 58, 3) := by decide +kernel
theorem dX7_ratio_29 : decode cX7_ratio 29 = .ok (.iconst (-1), 1) := by decide +kernel
theorem dX7_ratio_30 : decode cX7_ratio 30 = .ok (.iconst (-1), 1) := by decide +kernel
theorem dX7_ratio_31 : decode cX7_ratio 31 = .ok (.aload_n 0, 1) := by decide +kernel
theorem dX7_ratio_32 : decode cX7_ratio 32 = .ok (.invokevirtual 64, 3) := by decide +kernel
theorem dX7_ratio_35 : decode cX7_ratio 35 = .ok (.invokespecial 68, 3) := by decide +kernel
theorem dX7_ratio_38 : decode cX7_ratio 38 = .ok (.astore_n 3, 1) := by decide +kernel
theorem dX7_ratio_39 : decode cX7_ratio 39 = .ok (.iconst 0, 1) := by decide +kernel
theorem dX7_ratio_40 : decode cX7_ratio 40 = .ok (.istore 4, 2) := by decide +kernel
theorem dX7_ratio_42 : decode cX7_ratio 42 = .ok (.iload 4, 2) := by decide +kernel
theorem dX7_ratio_44 : decode cX7_ratio 44 = .ok (.bipush 24, 2) := by decide +kernel
theorem dX7_ratio_46 : decode cX7_ratio 46 = .ok (.if_icmp .gt 62, 3) := by decide +kernel
theorem dX7_ratio_49 : decode cX7_ratio 49 = .ok (.iload_n 1, 1) := by decide +kernel
theorem dX7_ratio_50 : decode cX7_ratio 50 = .ok (.i2l, 1) := by decide +kernel
theorem dX7_ratio_51 : decode cX7_ratio 51 = .ok (.iload 4, 2) := by decide +kernel
theorem dX7_ratio_53 : decode cX7_ratio 53 = .ok (.invokestatic 71, 3) := by decide +kernel
theorem dX7_ratio_56 : decode cX7_ratio 56 = .ok (.lmul, 1) := by decide +kernel
theorem dX7_ratio_57 : decode cX7_ratio 57 = .ok (.lstore 5, 2) := by decide +kernel
theorem dX7_ratio_59 : decode cX7_ratio 59 = .ok (.aload_n 0, 1) := by decide +kernel
theorem dX7_ratio_60 : decode cX7_ratio 60 = .ok (.getfield 22, 3) := by decide +kernel
theorem dX7_ratio_63 : decode cX7_ratio 63 = .ok (.lload 5, 2) := by decide +kernel
theorem dX7_ratio_65 : decode cX7_ratio 65 = .ok (.iload_n 2, 1) := by decide +kernel
theorem dX7_ratio_66 : decode cX7_ratio 66 = .ok (.i2l, 1) := by decide +kernel
theorem dX7_ratio_67 : decode cX7_ratio 67 = .ok (.invokestatic 75, 3) := by decide +kernel
theorem dX7_ratio_70 : decode cX7_ratio 70 = .ok (.lload 5, 2) := by decide +kernel
theorem dX7_ratio_72 : decode cX7_ratio 72 = .ok (.iload_n 2, 1) := by decide +kernel
theorem dX7_ratio_73 : decode cX7_ratio 73 = .ok (.i2l, 1) := by decide +kernel
theorem dX7_ratio_74 : decode cX7_ratio 74 = .ok (.invokestatic 79, 3) := by decide +kernel
theorem dX7_ratio_77 : decode cX7_ratio 77 = .ok (.invokevirtual 82, 3) := by decide +kernel
theorem dX7_ratio_80 : decode cX7_ratio 80 = .ok (.aload_n 0, 1) := by decide +kernel
theorem dX7_ratio_81 : decode cX7_ratio 81 = .ok (.getfield 22, 3) := by decide +kernel
theorem dX7_ratio_84 : decode cX7_ratio 84 = .ok (.iload 4, 2) := by decide +kernel
theorem dX7_ratio_86 : decode cX7_ratio 86 = .ok (.invokevirtual 86, 3) := by decide +kernel
theorem dX7_ratio_89 : decode cX7_ratio 89 = .ok (.aload_n 3, 1) := by decide +kernel
theorem dX7_ratio_90 : decode cX7_ratio 90 = .ok (.getfield 89, 3) := by decide +kernel
theorem dX7_ratio_93 : decode cX7_ratio 93 = .ok (.iload 4, 2) := by decide +kernel
theorem dX7_ratio_95 : decode cX7_ratio 95 = .ok (.aload_n 0, 1) := by decide +kernel
theorem dX7_ratio_96 : decode cX7_ratio 96 = .ok (.getfield 22, 3) := by decide +kernel
theorem dX7_ratio_99 : decode cX7_ratio 99 = .ok (.invokevirtual 92, 3) := by decide +kernel
theorem dX7_ratio_102 : decode cX7_ratio 102 = .ok (.iinc 4 1, 3) := by decide +kernel
theorem dX7_ratio_105 : decode cX7_ratio 105 = .ok (.goto (-63), 3) := by decide +kernel
theorem dX7_ratio_108 : decode cX7_ratio 108 = .ok (.aload_n 0, 1) := by decide +kernel
theorem dX7_ratio_109 : decode cX7_ratio 109 = .ok (.aload_n 3, 1) := by decide +kernel
theorem dX7_ratio_110 : decode cX7_ratio 110 = .ok (.invokevirtual 96, 3) := by decide +kernel
theorem dX7_ratio_113 : decode cX7_ratio 113 = .ok (.ireturn, 1) := by decide +kernel
set_option maxRecDepth 20000 in
theorem ggX7_sum_X7_make : GoodIn wsX7_sum wsX7_make := goodIn_ca (goodIn_ca (goodIn_r _ [6, 7, 8, 9, 10, 11, 12, 13, 14, 15, 16, 17, 5, 18, 19, 20, 21, 22, 23, 24, 25, 26, 27, 28, 29, 30, 31, 32, 33, 34, 35, 36, 37, 38, 39, 40, 41, 42, 43, 44, 45, 46, 47, 48, 49, 50, 51, 52, 53, 54, 55, 56, 57, 58, 59, 60, 61, 62, 63, 64, 65, 66, 67, 68, 69, 70, 71, 72, 73, 74, 75, 76, 77, 78, 79, 80, 81, 82, 83, 84, 85, 86, 87, 88, 89, 90, 91, 92, 93, 94, 95, 96, 97, 98, 99, 100, 101, 102, 103, 104, 105, 106, 107, 108, 109, 110, 111, 112, 113, 114, 115, 116, 117, 118, 119, 120, 121, 122, 123, 124, 125, 126, 127, 128, 129, 130, 131, 132, 133, 134, 135, 136, 137, 138, 139, 140, 141, 142, 143, 144, 145, 146, 147, 148, 149, 150, 151, 152, 153, 154, 155, 156, 157, 158, 159, 160, 161, 162, 163, 164, 165, 166, 167, 168, 169, 170, 171, 172, 173, 174, 175, 176, 177] (by decide +kernel) (by decide +kernel)) (goodIn_sub (fun _ h => List.mem_cons_of_mem _ (List.mem_append_left _ (List.mem_append_right _ h))) (by decide +kernel))) (goodIn_sub (fun _ h => List.mem_cons_of_mem _ (List.mem_append_right _ h)) (by decide +kernel))
set_option maxRecDepth 20000 in
theorem gX7_sum_X7_make : GoodIn wsX7_sum (wsV RX7 103 RX7 yX7_make wsX7_make) := goodIn_app (goodIn_of _ (by decide +kernel)) ggX7_sum_X7_make
theorem dX7_sum_0 : decode cX7_sum 0 = .ok (.aload_n 0, 1) := by decide +kernel
theorem dX7_sum_1 : decode cX7_sum 1 = .ok (.getstatic 100, 3) := by decide +kernel
theorem dX7_sum_4 : decode cX7_sum 4 = .ok (.iload_n 1, 1) := by decide +kernel
theorem dX7_sum_5 : decode cX7_sum 5 = .ok (.iload_n 2, 1) := by decide +kernel
theorem dX7_sum_6 : decode cX7_sum 6 = .ok (.invokevirtual 103, 3) := by decide +kernel
theorem dX7_sum_9 : decode cX7_sum 9 = .ok (.ireturn, 1) := by decide +kernel
set_option maxRecDepth 20000 in
theorem ggX7_difference_X7_make : GoodIn wsX7_difference wsX7_make := goodIn_ca (goodIn_ca (goodIn_r _ [6, 7, 8, 9, 10, 11, 12, 13, 14, 15, 16, 17, 5, 18, 19, 20, 21, 22, 23, 24, 25, 26, 27, 28, 29, 30, 31, 32, 33, 34, 35, 36, 37, 38, 39, 40, 41, 42, 43, 44, 45, 46, 47, 48, 49, 50, 51, 52, 53, 54, 55, 56, 57, 58, 59, 60, 61, 62, 63, 64, 65, 66, 67, 68, 69, 70, 71, 72, 73, 74, 75, 76, 77, 78, 79, 80, 81, 82, 83, 84, 85, 86, 87, 88, 89, 90, 91, 92, 93, 94, 95, 96, 97, 98, 99, 100, 101, 102, 103, 104, 105, 106, 107, 108, 109, 110, 111, 112, 113, 114, 115, 116, 117, 118, 119, 120, 121, 122, 123, 124, 125, 126, 127, 128, 129, 130, 131, 132, 133, 134, 135, 136, 137, 138, 139, 140, 141, 142, 143, 144, 145, 146, 147, 148, 149, 150, 151, 152, 153, 154, 155, 156, 157, 158, 159, 160, 161, 162, 163, 164, 165, 166, 167, 168, 169, 170, 171, 172, 173, 174, 175, 176, 177] (by decide +kernel) (by decide +kernel)) (goodIn_sub (fun _ h => List.mem_cons_of_mem _ (List.mem_append_left _ (List.mem_append_right _ h))) (by decide +kernel))) (goodIn_sub (fun _ h => List.mem_cons_of_mem _ (List.mem_append_right _ h)) (by decide +kernel))
set_option maxRecDepth 20000 in
theorem gX7_difference_X7_make : GoodIn wsX7_difference (wsV RX7 103 RX7 yX7_make wsX7_make) := goodIn_app (goodIn_of _ (by decide +kernel)) ggX7_difference_X7_make
theorem dX7_difference_0 : decode cX7_difference 0 = .ok (.aload_n 0, 1) := by decide +kernel
theorem dX7_difference_1 : decode cX7_difference 1 = .ok (.getstatic 107, 3) := by decide +kernel
theorem dX7_difference_4 : decode cX7_difference 4 = .ok (.iload_n 1, 1) := by decide +kernel
theorem dX7_difference_5 : decode cX7_difference 5 = .ok (.iload_n 2, 1) := by decide +kernel
theorem dX7_difference_6 : decode cX7_difference 6 = .ok (.invokevirtual 103, 3) := by decide +kernel
theorem dX7_difference_9 : decode cX7_difference 9 = .ok (.ireturn, 1) := by decide +kernel
set_option maxRecDepth 20000 in
theorem ggX7_product_X7_make : GoodIn wsX7_product wsX7_make := goodIn_ca (goodIn_ca (goodIn_r _ [6, 7, 8, 9, 10, 11, 12, 13, 14, 15, 16, 17, 5, 18, 19, 20, 21, 22, 23, 24, 25, 26, 27, 28, 29, 30, 31, 32, 33, 34, 35, 36, 37, 38, 39, 40, 41, 42, 43, 44, 45, 46, 47, 48, 49, 50, 51, 52, 53, 54, 55, 56, 57, 58, 59, 60, 61, 62, 63, 64, 65, 66, 67, 68, 69, 70, 71, 72, 73, 74, 75, 76, 77, 78, 79, 80, 81, 82, 83, 84, 85, 86, 87, 88, 89, 90, 91, 92, 93, 94, 95, 96, 97, 98, 99, 100, 101, 102, 103, 104, 105, 106, 107, 108, 109, 110, 111, 112, 113, 114, 115, 116, 117, 118, 119, 120, 121, 122, 123, 124, 125, 126, 127, 128, 129, 130, 131, 132, 133, 134, 135, 136, 137, 138, 139, 140, 141, 142, 143, 144, 145, 146, 147, 148, 149, 150, 151, 152, 153, 154, 155, 156, 157, 158, 159, 160, 161, 162, 163, 164, 165, 166, 167, 168, 169, 170, 171, 172, 173, 174, 175, 176, 177] (by decide +kernel) (by decide +kernel)) (goodIn_sub (fun _ h => List.mem_cons_of_mem _ (List.mem_append_left _ (List.mem_append_right _ h))) (by decide +kernel))) (goodIn_sub (fun _ h => List.mem_cons_of_mem _ (List.mem_append_right _ h)) (by decide +kernel))
set_option maxRecDepth 20000 in
theorem gX7_product_X7_make : GoodIn wsX7_product (wsV RX7 103 RX7 yX7_make wsX7_make) := goodIn_app (goodIn_of _ (by decide +kernel)) ggX7_product_X7_make
theorem dX7_product_0 : decode cX7_product 0 = .ok (.aload_n 0, 1) := by decide +kernel
theorem dX7_product_1 : decode cX7_product 1 = .ok (.getstatic 110, 3) := by decide +kernel
theorem dX7_product_4 : decode cX7_product 4 = .ok (.iload_n 1, 1) := by decide +kernel
theorem dX7_product_5 : decode cX7_product 5 = .ok (.iload_n 2, 1) := by decide +kernel
theorem dX7_product_6 : decode cX7_product 6 = .ok (.invokevirtual 103, 3) := by decide +kernel
theorem dX7_product_9 : decode cX7_product 9 = .ok (.ireturn, 1) := by decide +kernel
set_option maxRecDepth 20000 in
theorem ggX7_greater_X7_make : GoodIn wsX7_greater wsX7_make := goodIn_ca (goodIn_ca (goodIn_r _ [6, 7, 8, 9, 10, 11, 12, 13, 14, 15, 16, 17, 5, 18, 19, 20, 21, 22, 23, 24, 25, 26, 27, 28, 29, 30, 31, 32, 33, 34, 35, 36, 37, 38, 39, 40, 41, 42, 43, 44, 45, 46, 47, 48, 49, 50, 51, 52, 53, 54, 55, 56, 57, 58, 59, 60, 61, 62, 63, 64, 65, 66, 67, 68, 69, 70, 71, 72, 73, 74, 75, 76, 77, 78, 79, 80, 81, 82, 83, 84, 85, 86, 87, 88, 89, 90, 91, 92, 93, 94, 95, 96, 97, 98, 99, 100, 101, 102, 103, 104, 105, 106, 107, 108, 109, 110, 111, 112, 113, 114, 115, 116, 117, 118, 119, 120, 121, 122, 123, 124, 125, 126, 127, 128, 129, 130, 131, 132, 133, 134, 135, 136, 137, 138, 139, 140, 141, 142, 143, 144, 145, 146, 147, 148, 149, 150, 151, 152, 153, 154, 155, 156, 157, 158, 159, 160, 161, 162, 163, 164, 165, 166, 167, 168, 169, 170, 171, 172, 173, 174, 175, 176, 177] (by decide +kernel) (by decide +kernel)) (goodIn_sub (fun _ h => List.mem_cons_of_mem _ (List.mem_append_left _ (List.mem_append_right _ h))) (by decide +kernel))) (goodIn_sub (fun _ h => List.mem_cons_of_mem _ (List.mem_append_right _ h)) (by decide +kernel))
set_option maxRecDepth 20000 in
theorem gX7_greater_X7_make : GoodIn wsX7_greater (wsV RX7 103 RX7 yX7_make wsX7_make) := goodIn_app (goodIn_of _ (by decide +kernel)) ggX7_greater_X7_make
theorem dX7_greater_0 : decode cX7_greater 0 = .ok (.aload_n 0, 1) := by decide +kernel
theorem dX7_greater_1 : decode cX7_greater 1 = .ok (.getstatic 113, 3) := by decide +kernel
theorem dX7_greater_4 : decode cX7_greater 4 = .ok (.iload_n 1, 1) := by decide +kernel
theorem dX7_greater_5 : decode cX7_greater 5 = .ok (.iload_n 2, 1) := by decide +kernel
theorem dX7_greater_6 : decode cX7_greater 6 = .ok (.invokevirtual 103, 3) := by decide +kernel
theorem dX7_greater_9 : decode cX7_greater 9 = .ok (.ireturn, 1) := by decide +kernel
set_option maxRecDepth 20000 in
theorem ggX7_inverse_X7_make : GoodIn wsX7_inverse wsX7_make := goodIn_ca (goodIn_ca (goodIn_r _ [6, 7, 8, 9, 10, 11, 12, 13, 14, 15, 16, 17, 5, 18, 19, 20, 21, 22, 23, 24, 25, 26, 27, 28, 29, 30, 31, 32, 33, 34, 35, 36, 37, 38, 39, 40, 41, 42, 43, 44, 45, 46, 47, 48, 49, 50, 51, 52, 53, 54, 55, 56, 57, 58, 59, 60, 61, 62, 63, 64, 65, 66, 67, 68, 69, 70, 71, 72, 73, 74, 75, 76, 77, 78, 79, 80, 81, 82, 83, 84, 85, 86, 87, 88, 89, 90, 91, 92, 93, 94, 95, 96, 97, 98, 99, 100, 101, 102, 103, 104, 105, 106, 107, 108, 109, 110, 111, 112, 113, 114, 115, 116, 117, 118, 119, 120, 121, 122, 123, 124, 125, 126, 127, 128, 129, 130, 131, 132, 133, 134, 135, 136, 137, 138, 139, 140, 141, 142, 143, 144, 145, 146, 147, 148, 149, 150, 151, 152, 153, 154, 155, 156, 157, 158, 159, 160, 161, 162, 163, 164, 165, 166, 167, 168, 169, 170, 171, 172, 173, 174, 175, 176, 177] (by decide +kernel) (by decide +kernel)) (goodIn_sub (fun _ h => List.mem_cons_of_mem _ (List.mem_append_left _ (List.mem_append_right _ h))) (by decide +kernel))) (goodIn_sub (fun _ h => List.mem_cons_of_mem _ (List.mem_append_right _ h)) (by decide +kernel))
set_option maxRecDepth 20000 in
theorem gX7_inverse_X7_make : GoodIn wsX7_inverse (wsV RX7 103 RX7 yX7_make wsX7_make) := goodIn_app (goodIn_of _ (by decide +kernel)) ggX7_inverse_X7_make
theorem dX7_inverse_0 : decode cX7_inverse 0 = .ok (.aload_n 0, 1) := by decide +kernel
theorem dX7_inverse_1 : decode cX7_inverse 1 = .ok (.getstatic 116, 3) := by decide +kernel
theorem dX7_inverse_4 : decode cX7_inverse 4 = .ok (.iload_n 1, 1) := by decide +kernel
theorem dX7_inverse_5 : decode cX7_inverse 5 = .ok (.iload_n 1, 1) := by decide +kernel
theorem dX7_inverse_6 : decode cX7_inverse 6 = .ok (.invokevirtual 103, 3) := by decide +kernel
theorem dX7_inverse_9 : decode cX7_inverse 9 = .ok (.ireturn, 1) := by decide +kernel
set_option maxRecDepth 20000 in
theorem ggX7_root_X7_make : GoodIn wsX7_root wsX7_make := goodIn_ca (goodIn_ca (goodIn_r _ [6, 7, 8, 9, 10, 11, 12, 13, 14, 15, 16, 17, 5, 18, 19, 20, 21, 22, 23, 24, 25, 26, 27, 28, 29, 30, 31, 32, 33, 34, 35, 36, 37, 38, 39, 40, 41, 42, 43, 44, 45, 46, 47, 48, 49, 50, 51, 52, 53, 54, 55, 56, 57, 58, 59, 60, 61, 62, 63, 64, 65, 66, 67, 68, 69, 70, 71, 72, 73, 74, 75, 76, 77, 78, 79, 80, 81, 82, 83, 84, 85, 86, 87, 88, 89, 90, 91, 92, 93, 94, 95, 96, 97, 98, 99, 100, 101, 102, 103, 104, 105, 106, 107, 108, 109, 110, 111, 112, 113, 114, 115, 116, 117, 118, 119, 120, 121, 122, 123, 124, 125, 126, 127, 128, 129, 130, 131, 132, 133, 134, 135, 136, 137, 138, 139, 140, 141, 142, 143, 144, 145, 146, 147, 148, 149, 150, 151, 152, 153, 154, 155, 156, 157, 158, 159, 160, 161, 162, 163, 164, 165, 166, 167, 168, 169, 170, 171, 172, 173, 174, 175, 176, 177] (by decide +kernel) (by decide +kernel)) (goodIn_sub (fun _ h => List.mem_cons_of_mem _ (List.mem_append_left _ (List.mem_append_right _ h))) (by decide +kernel))) (goodIn_sub (fun _ h => List.mem_cons_of_mem _ (List.mem_append_right _ h)) (by decide +kernel))
set_option maxRecDepth 20000 in
theorem gX7_root_X7_make : GoodIn wsX7_root (wsV RX7 103 RX7 yX7_make wsX7_make) := goodIn_app (goodIn_of _ (by decide +kernel)) ggX7_root_X7_make
theorem dX7_root_0 : decode cX7_root 0 = .ok (.aload_n 0, 1) := by decide +kernel
theorem dX7_root_1 : decode cX7_root 1 = .ok (.getstatic 119, 3) := by decide +kernel
theorem dX7_root_4 : decode cX7_root 4 = .ok (.iload_n 1, 1) := by decide +kernel
theorem dX7_root_5 : decode cX7_root 5 = .ok (.iload_n 1, 1) := by decide +kernel
theorem dX7_root_6 : decode cX7_root 6 = .ok (.invokevirtual 103, 3) := by decide +kernel
theorem dX7_root_9 : decode cX7_root 9 = .ok (.ireturn, 1) := by decide +kernel
set_option maxRecDepth 20000 in
theorem ggX7_exp_X7_make : GoodIn wsX7_exp wsX7_make := goodIn_ca (goodIn_ca (goodIn_r _ [6, 7, 8, 9, 10, 11, 12, 13, 14, 15, 16, 17, 5, 18, 19, 20, 21, 22, 23, 24, 25, 26, 27, 28, 29, 30, 31, 32, 33, 34, 35, 36, 37, 38, 39, 40, 41, 42, 43, 44, 45, 46, 47, 48, 49, 50, 51, 52, 53, 54, 55, 56, 57, 58, 59, 60, 61, 62, 63, 64, 65, 66, 67, 68, 69, 70, 71, 72, 73, 74, 75, 76, 77, 78, 79, 80, 81, 82, 83, 84, 85, 86, 87, 88, 89, 90, 91, 92, 93, 94, 95, 96, 97, 98, 99, 100, 101, 102, 103, 104, 105, 106, 107, 108, 109, 110, 111, 112, 113, 114, 115, 116, 117, 118, 119, 120, 121, 122, 123, 124, 125, 126, 127, 128, 129, 130, 131, 132, 133, 134, 135, 136, 137, 138, 139, 140, 141, 142, 143, 144, 145, 146, 147, 148, 149, 150, 151, 152, 153, 154, 155, 156, 157, 158, 159, 160, 161, 162, 163, 164, 165, 166, 167, 168, 169, 170, 171, 172, 173, 174, 175, 176, 177] (by decide +kernel) (by decide +kernel)) (goodIn_sub (fun _ h => List.mem_cons_of_mem _ (List.mem_append_left _ (List.mem_append_right _ h))) (by decide +kernel))) (goodIn_sub (fun _ h => List.mem_cons_of_mem _ (List.mem_append_right _ h)) (by decide +kernel))
set_option maxRecDepth 20000 in
theorem gX7_exp_X7_make : GoodIn wsX7_exp (wsV RX7 103 RX7 yX7_make wsX7_make) := goodIn_app (goodIn_of _ (by decide +kernel)) ggX7_exp_X7_make
theorem dX7_exp_0 : decode cX7_exp 0 = .ok (.aload_n 0, 1) := by decide +kernel
theorem dX7_exp_1 : decode cX7_exp 1 = .ok (.getstatic 122, 3) := by decide +kernel
theorem dX7_exp_4 : decode cX7_exp 4 = .ok (.iload_n 1, 1) := by decide +kernel
theorem dX7_exp_5 : decode cX7_exp 5 = .ok (.iload_n 1, 1) := by decide +kernel
theorem dX7_exp_6 : decode cX7_exp 6 = .ok (.invokevirtual 103, 3) := by decide +kernel
theorem dX7_exp_9 : decode cX7_exp 9 = .ok (.ireturn, 1) := by decide +kernel
set_option maxRecDepth 20000 in
theorem ggX7_zero_X7_requireWithin : GoodIn wsX7_zero wsX7_requireWithin := goodIn_ca (goodIn_r _ [15, 16, 17] (by decide +kernel) (by decide +kernel)) (goodIn_sub (fun _ h => List.mem_cons_of_mem _ (List.mem_append_right _ h)) (by decide +kernel))
set_option maxRecDepth 20000 in
theorem gX7_zero_X7_requireWithin : GoodIn wsX7_zero (va_wsS RX7 51 yX7_requireWithin wsX7_requireWithin) := goodIn_app (goodIn_of _ (by decide +kernel)) ggX7_zero_X7_requireWithin
set_option maxRecDepth 20000 in
theorem ggX7_zero_X7_requireRoom : GoodIn wsX7_zero wsX7_requireRoom := goodIn_ca (goodIn_r _ [21, 1, 2, 22, 23, 137, 138, 139, 140, 141, 142, 143, 144] (by decide +kernel) (by decide +kernel)) (goodIn_sub (fun _ h => List.mem_cons_of_mem _ (List.mem_append_left _ (List.mem_append_right _ h))) (by decide +kernel))
set_option maxRecDepth 20000 in
theorem gX7_zero_X7_requireRoom : GoodIn wsX7_zero (wsV RX7 55 RX7 yX7_requireRoom wsX7_requireRoom) := goodIn_app (goodIn_of _ (by decide +kernel)) ggX7_zero_X7_requireRoom
set_option maxRecDepth 20000 in
theorem ggX7_zero_X4_init : GoodIn wsX7_zero wsX4_init := goodIn_r _ [26, 27, 28, 29, 30, 31, 32, 33, 125, 126, 127, 128] (by decide +kernel) (by decide +kernel)
set_option maxRecDepth 20000 in
theorem gX7_zero_X4_init : GoodIn wsX7_zero (wsX4_init) := ggX7_zero_X4_init
set_option maxRecDepth 20000 in
theorem ggX7_zero_X4_signAt : GoodIn wsX7_zero wsX4_signAt := goodIn_r _ [37, 33, 32, 31, 30, 38, 14, 39, 40, 41, 42, 43, 125, 126, 127, 128] (by decide +kernel) (by decide +kernel)
set_option maxRecDepth 20000 in
theorem gX7_zero_X4_signAt : GoodIn wsX7_zero (wsV RX7 130 RX4 yX4_signAt wsX4_signAt) := goodIn_app (goodIn_of _ (by decide +kernel)) ggX7_zero_X4_signAt
set_option maxRecDepth 20000 in
theorem ggX7_zero_X7_ownBit : GoodIn wsX7_zero wsX7_ownBit := goodIn_r _ [47, 22, 137, 138, 139, 140, 141, 142, 143, 144] (by decide +kernel) (by decide +kernel)
set_option maxRecDepth 20000 in
theorem gX7_zero_X7_ownBit : GoodIn wsX7_zero (wsV RX7 64 RX7 yX7_ownBit wsX7_ownBit) := goodIn_app (goodIn_of _ (by decide +kernel)) ggX7_zero_X7_ownBit
set_option maxRecDepth 20000 in
theorem ggX7_zero_X5_init : GoodIn wsX7_zero wsX5_init := goodIn_r _ [50, 51, 28, 29, 52, 53, 54, 55, 56, 57, 58, 59, 60, 61, 62, 63, 64, 65, 66, 67, 68, 69, 70, 71, 129, 130, 131, 132, 133, 134, 135, 136, 145, 146, 147] (by decide +kernel) (by decide +kernel)
set_option maxRecDepth 20000 in
theorem gX7_zero_X5_init : GoodIn wsX7_zero (wsX5_init) := ggX7_zero_X5_init
set_option maxRecDepth 20000 in
theorem ggX7_zero_X7_findZero : GoodIn wsX7_zero wsX7_findZero := goodIn_r _ [75, 76, 77, 78, 79, 80, 11, 81, 38, 14, 39, 34, 35, 36, 5, 37, 33, 32, 31, 30, 40, 41, 42, 43, 82, 83, 84, 85, 86, 87, 88, 89, 137, 138, 139, 140, 141, 142, 143, 144, 125, 126, 127, 128, 148, 149, 150] (by decide +kernel) (by decide +kernel)
set_option maxRecDepth 20000 in
theorem gX7_zero_X7_findZero : GoodIn wsX7_zero (wsV RX7 144 RX7 yX7_findZero wsX7_findZero) := goodIn_app (goodIn_of _ (by decide +kernel)) ggX7_zero_X7_findZero
set_option maxRecDepth 20000 in
theorem ggX7_zero_X6_put : GoodIn wsX7_zero wsX6_put := goodIn_r _ [93, 70, 68, 94, 95, 71, 96, 145, 146, 147, 148, 149, 150] (by decide +kernel) (by decide +kernel)
set_option maxRecDepth 20000 in
theorem gX7_zero_X6_put : GoodIn wsX7_zero (wsV RX7 92 RX6 yX6_put wsX6_put) := goodIn_app (goodIn_of _ (by decide +kernel)) ggX7_zero_X6_put
set_option maxRecDepth 20000 in
theorem ggX7_zero_X7_add : GoodIn wsX7_zero wsX7_add := goodIn_r _ [100, 11, 10, 101, 102, 22, 23, 103, 104, 105, 85, 106, 87, 88, 89, 107, 108, 109, 58, 110, 70, 68, 71, 111, 112, 83, 84, 86, 113, 114, 115, 116, 117, 118, 119, 78, 120, 121, 122, 123, 124, 90, 91, 92, 93, 94, 95, 96, 137, 138, 139, 140, 141, 142, 143, 144, 129, 130, 131, 132, 133, 134, 135, 136, 148, 149, 150, 145, 146, 147] (by decide +kernel) (by decide +kernel)
set_option maxRecDepth 20000 in
theorem gX7_zero_X7_add : GoodIn wsX7_zero (wsV RX7 96 RX7 yX7_add wsX7_add) := goodIn_app (goodIn_of _ (by decide +kernel)) ggX7_zero_X7_add
theorem dX7_zero_0 : decode cX7_zero 0 = .ok (.iload_n 1, 1) := by decide +kernel
theorem dX7_zero_1 : decode cX7_zero 1 = .ok (.bipush (-9), 2) := by decide +kernel
theorem dX7_zero_3 : decode cX7_zero 3 = .ok (.bipush 9, 2) := by decide +kernel
theorem dX7_zero_5 : decode cX7_zero 5 = .ok (.invokestatic 51, 3) := by decide +kernel
theorem dX7_zero_8 : decode cX7_zero 8 = .ok (.iload_n 2, 1) := by decide +kernel
theorem dX7_zero_9 : decode cX7_zero 9 = .ok (.bipush (-9), 2) := by decide +kernel
theorem dX7_zero_11 : decode cX7_zero 11 = .ok (.bipush 9, 2) := by decide +kernel
theorem dX7_zero_13 : decode cX7_zero 13 = .ok (.invokestatic 51, 3) := by decide +kernel
theorem dX7_zero_16 : decode cX7_zero 16 = .ok (.iload_n 3, 1) := by decide +kernel
theorem dX7_zero_17 : decode cX7_zero 17 = .ok (.bipush (-9), 2) := by decide +kernel
theorem dX7_zero_19 : decode cX7_zero 19 = .ok (.bipush 9, 2) := by decide +kernel
theorem dX7_zero_21 : decode cX7_zero 21 = .ok (.invokestatic 51, 3) := by decide +kernel
theorem dX7_zero_24 : decode cX7_zero 24 = .ok (.iload 4, 2) := by decide +kernel
theorem dX7_zero_26 : decode cX7_zero 26 = .ok (.bipush (-9), 2) := by decide +kernel
theorem dX7_zero_28 : decode cX7_zero 28 = .ok (.bipush 9, 2) := by decide +kernel
theorem dX7_zero_30 : decode cX7_zero 30 = .ok (.invokestatic 51, 3) := by decide +kernel
theorem dX7_zero_33 : decode cX7_zero 33 = .ok (.iload 5, 2) := by decide +kernel
theorem dX7_zero_35 : decode cX7_zero 35 = .ok (.bipush (-4), 2) := by decide +kernel
theorem dX7_zero_37 : decode cX7_zero 37 = .ok (.iconst 3, 1) := by decide +kernel
theorem dX7_zero_38 : decode cX7_zero 38 = .ok (.invokestatic 51, 3) := by decide +kernel
theorem dX7_zero_41 : decode cX7_zero 41 = .ok (.iload 6, 2) := by decide +kernel
theorem dX7_zero_43 : decode cX7_zero 43 = .ok (.iconst 0, 1) := by decide +kernel
theorem dX7_zero_44 : decode cX7_zero 44 = .ok (.iconst 2, 1) := by decide +kernel
theorem dX7_zero_45 : decode cX7_zero 45 = .ok (.invokestatic 51, 3) := by decide +kernel
theorem dX7_zero_48 : decode cX7_zero 48 = .ok (.aload_n 0, 1) := by decide +kernel
theorem dX7_zero_49 : decode cX7_zero 49 = .ok (.invokevirtual 55, 3) := by decide +kernel
theorem dX7_zero_52 : decode cX7_zero 52 = .ok (.new 125, 3) := by decide +kernel
theorem dX7_zero_55 : decode cX7_zero 55 = .ok (.dup, 1) := by decide +kernel
theorem dX7_zero_56 : decode cX7_zero 56 = .ok (.iload_n 1, 1) := by decide +kernel
theorem dX7_zero_57 : decode cX7_zero 57 = .ok (.iload_n 2, 1) := by decide +kernel
theorem dX7_zero_58 : decode cX7_zero 58 = .ok (.iload_n 3, 1) := by decide +kernel
theorem dX7_zero_59 : decode cX7_zero 59 = .ok (.iload 4, 2) := by decide +kernel
theorem dX7_zero_61 : decode cX7_zero 61 = .ok (.invokespecial 127, 3) := by decide +kernel
theorem dX7_zero_64 : decode cX7_zero 64 = .ok (.astore 7, 2) := by decide +kernel
theorem dX7_zero_66 : decode cX7_zero 66 = .ok (.aload 7, 2) := by decide +kernel
theorem dX7_zero_68 : decode cX7_zero 68 = .ok (.iload 5, 2) := by decide +kernel
theorem dX7_zero_70 : decode cX7_zero 70 = .ok (.i2l, 1) := by decide +kernel
theorem dX7_zero_71 : decode cX7_zero 71 = .ok (.iconst 0, 1) := by decide +kernel
theorem dX7_zero_72 : decode cX7_zero 72 = .ok (.invokevirtual 130, 3) := by decide +kernel
theorem dX7_zero_75 : decode cX7_zero 75 = .ok (.istore 8, 2) := by decide +kernel
theorem dX7_zero_77 : decode cX7_zero 77 = .ok (.aload 7, 2) := by decide +kernel
theorem dX7_zero_79 : decode cX7_zero 79 = .ok (.iload 5, 2) := by decide +kernel
theorem dX7_zero_81 : decode cX7_zero 81 = .ok (.iconst 1, 1) := by decide +kernel
theorem dX7_zero_82 : decode cX7_zero 82 = .ok (.iload 6, 2) := by decide +kernel
theorem dX7_zero_84 : decode cX7_zero 84 = .ok (.ishl, 1) := by decide +kernel
theorem dX7_zero_85 : decode cX7_zero 85 = .ok (.iadd, 1) := by decide +kernel
theorem dX7_zero_86 : decode cX7_zero 86 = .ok (.i2l, 1) := by decide +kernel
theorem dX7_zero_87 : decode cX7_zero 87 = .ok (.iconst 0, 1) := by decide +kernel
theorem dX7_zero_88 : decode cX7_zero 88 = .ok (.invokevirtual 130, 3) := by decide +kernel
theorem dX7_zero_91 : decode cX7_zero 91 = .ok (.istore 9, 2) := by decide +kernel
theorem dX7_zero_93 : decode cX7_zero 93 = .ok (.iload 8, 2) := by decide +kernel
theorem dX7_zero_95 : decode cX7_zero 95 = .ok (.iload 9, 2) := by decide +kernel
theorem dX7_zero_97 : decode cX7_zero 97 = .ok (.imul, 1) := by decide +kernel
theorem dX7_zero_98 : decode cX7_zero 98 = .ok (.ifCond .lt 13, 3) := by decide +kernel
theorem dX7_zero_101 : decode cX7_zero 101 = .ok (.new 134, 3) := by decide +kernel
theorem dX7_zero_104 : decode cX7_zero 104 = .ok (.dup, 1) := by decide +kernel
theorem dX7_zero_105 : decode cX7_zero 105 = .ok (.ldc 136, 2) := by decide +kernel
theorem dX7_zero_107 : decode cX7_zero 107 = .ok (.invokespecial 138, 3) := by decide +kernel
theorem dX7_zero_110 : decode cX7_zero 110 = .ok (.athrow, 1) := by decide +kernel
theorem dX7_zero_111 : decode cX7_zero 111 = .ok (.new 9, 3) := by decide +kernel
theorem dX7_zero_114 : decode cX7_zero 114 = .ok (.dup, 1) := by decide +kernel
theorem dX7_zero_115 : decode cX7_zero 115 = .ok (.getstatic 141, 3) := by decide +kernel
theorem dX7_zero_118 : decode cX7_zero 118 = .ok (.iconst (-1), 1) := by decide +kernel
theorem dX7_zero_119 : decode cX7_zero 119 = .ok (.iconst (-1), 1) := by decide +kernel
theorem dX7_zero_120 : decode cX7_zero 120 = .ok (.aload_n 0, 1) := by decide +kernel
theorem dX7_zero_121 : decode cX7_zero 121 = .ok (.invokevirtual 64, 3) := by decide +kernel
theorem dX7_zero_124 : decode cX7_zero 124 = .ok (.invokespecial 68, 3) := by decide +kernel
theorem dX7_zero_127 : decode cX7_zero 127 = .ok (.astore 10, 2) := by decide +kernel
theorem dX7_zero_129 : decode cX7_zero 129 = .ok (.iconst 0, 1) := by decide +kernel
theorem dX7_zero_130 : decode cX7_zero 130 = .ok (.istore 11, 2) := by decide +kernel
theorem dX7_zero_132 : decode cX7_zero 132 = .ok (.iload 11, 2) := by decide +kernel
theorem dX7_zero_134 : decode cX7_zero 134 = .ok (.bipush 24, 2) := by decide +kernel
theorem dX7_zero_136 : decode cX7_zero 136 = .ok (.if_icmp .gt 35, 3) := by decide +kernel
theorem dX7_zero_139 : decode cX7_zero 139 = .ok (.aload_n 0, 1) := by decide +kernel
theorem dX7_zero_140 : decode cX7_zero 140 = .ok (.aload 7, 2) := by decide +kernel
theorem dX7_zero_142 : decode cX7_zero 142 = .ok (.iload 5, 2) := by decide +kernel
theorem dX7_zero_144 : decode cX7_zero 144 = .ok (.iload 6, 2) := by decide +kernel
theorem dX7_zero_146 : decode cX7_zero 146 = .ok (.iload 11, 2) := by decide +kernel
theorem dX7_zero_148 : decode cX7_zero 148 = .ok (.invokevirtual 144, 3) := by decide +kernel
theorem dX7_zero_151 : decode cX7_zero 151 = .ok (.aload 10, 2) := by decide +kernel
theorem dX7_zero_153 : decode cX7_zero 153 = .ok (.getfield 89, 3) := by decide +kernel
theorem dX7_zero_156 : decode cX7_zero 156 = .ok (.iload 11, 2) := by decide +kernel
theorem dX7_zero_158 : decode cX7_zero 158 = .ok (.aload_n 0, 1) := by decide +kernel
theorem dX7_zero_159 : decode cX7_zero 159 = .ok (.getfield 22, 3) := by decide +kernel
theorem dX7_zero_162 : decode cX7_zero 162 = .ok (.invokevirtual 92, 3) := by decide +kernel
theorem dX7_zero_165 : decode cX7_zero 165 = .ok (.iinc 11 1, 3) := by decide +kernel
theorem dX7_zero_168 : decode cX7_zero 168 = .ok (.goto (-36), 3) := by decide +kernel
theorem dX7_zero_171 : decode cX7_zero 171 = .ok (.aload_n 0, 1) := by decide +kernel
theorem dX7_zero_172 : decode cX7_zero 172 = .ok (.aload 10, 2) := by decide +kernel
theorem dX7_zero_174 : decode cX7_zero 174 = .ok (.invokevirtual 96, 3) := by decide +kernel
theorem dX7_zero_177 : decode cX7_zero 177 = .ok (.ireturn, 1) := by decide +kernel
set_option maxRecDepth 20000 in
theorem ggX7_raw_X7_existing : GoodIn wsX7_raw wsX7_existing := goodIn_ca (goodIn_r _ [7, 8, 9, 10, 11, 54, 55, 56, 57, 58, 59, 60, 61] (by decide +kernel) (by decide +kernel)) (goodIn_sub (fun _ h => List.mem_cons_of_mem _ (List.mem_append_left _ (List.mem_append_left _ (List.mem_append_right _ h)))) (by decide +kernel))
set_option maxRecDepth 20000 in
theorem gX7_raw_X7_existing : GoodIn wsX7_raw (wsV RX7 148 RX7 yX7_existing wsX7_existing) := goodIn_app (goodIn_of _ (by decide +kernel)) ggX7_raw_X7_existing
set_option maxRecDepth 20000 in
theorem ggX7_raw_X7_requireWithin : GoodIn wsX7_raw wsX7_requireWithin := goodIn_ca (goodIn_r _ [14, 15, 16] (by decide +kernel) (by decide +kernel)) (goodIn_sub (fun _ h => List.mem_cons_of_mem _ (List.mem_append_left _ (List.mem_append_right _ h))) (by decide +kernel))
set_option maxRecDepth 20000 in
theorem gX7_raw_X7_requireWithin : GoodIn wsX7_raw (va_wsS RX7 51 yX7_requireWithin wsX7_requireWithin) := goodIn_app (goodIn_of _ (by decide +kernel)) ggX7_raw_X7_requireWithin
set_option maxRecDepth 20000 in
theorem ggX7_raw_X6_load : GoodIn wsX7_raw wsX6_load := goodIn_r _ [21, 22, 23, 24, 25, 26, 27, 28, 29, 30, 31, 32, 33, 34, 35, 36, 62, 63, 64, 65, 66, 67] (by decide +kernel) (by decide +kernel)
set_option maxRecDepth 20000 in
theorem gX7_raw_X6_load : GoodIn wsX7_raw (wsV RX7 152 RX6 yX6_load wsX6_load) := goodIn_app (goodIn_of _ (by decide +kernel)) ggX7_raw_X6_load
set_option maxRecDepth 20000 in
theorem ggX7_raw_X7_endOfAnswer : GoodIn wsX7_raw wsX7_endOfAnswer := goodIn_ca (goodIn_r _ [40, 41, 42, 2, 43, 44, 45, 54, 55, 56, 57, 58, 59, 60, 61, 65, 66, 67] (by decide +kernel) (by decide +kernel)) (goodIn_sub (fun _ h => List.mem_cons_of_mem _ (List.mem_append_right _ h)) (by decide +kernel))
set_option maxRecDepth 20000 in
theorem gX7_raw_X7_endOfAnswer : GoodIn wsX7_raw (wsV RX7 155 RX7 yX7_endOfAnswer wsX7_endOfAnswer) := goodIn_app (goodIn_of _ (by decide +kernel)) ggX7_raw_X7_endOfAnswer
theorem dX7_raw_0 : decode cX7_raw 0 = .ok (.aload_n 0, 1) := by decide +kernel
theorem dX7_raw_1 : decode cX7_raw 1 = .ok (.iload_n 1, 1) := by decide +kernel
theorem dX7_raw_2 : decode cX7_raw 2 = .ok (.invokevirtual 148, 3) := by decide +kernel
theorem dX7_raw_5 : decode cX7_raw 5 = .ok (.astore 4, 2) := by decide +kernel
theorem dX7_raw_7 : decode cX7_raw 7 = .ok (.iload_n 2, 1) := by decide +kernel
theorem dX7_raw_8 : decode cX7_raw 8 = .ok (.iconst 0, 1) := by decide +kernel
theorem dX7_raw_9 : decode cX7_raw 9 = .ok (.bipush 24, 2) := by decide +kernel
theorem dX7_raw_11 : decode cX7_raw 11 = .ok (.invokestatic 51, 3) := by decide +kernel
theorem dX7_raw_14 : decode cX7_raw 14 = .ok (.aload 4, 2) := by decide +kernel
theorem dX7_raw_16 : decode cX7_raw 16 = .ok (.getfield 89, 3) := by decide +kernel
theorem dX7_raw_19 : decode cX7_raw 19 = .ok (.iload_n 2, 1) := by decide +kernel
theorem dX7_raw_20 : decode cX7_raw 20 = .ok (.aload_n 0, 1) := by decide +kernel
theorem dX7_raw_21 : decode cX7_raw 21 = .ok (.getfield 22, 3) := by decide +kernel
theorem dX7_raw_24 : decode cX7_raw 24 = .ok (.invokevirtual 152, 3) := by decide +kernel
theorem dX7_raw_27 : decode cX7_raw 27 = .ok (.aload_n 0, 1) := by decide +kernel
theorem dX7_raw_28 : decode cX7_raw 28 = .ok (.iload_n 3, 1) := by decide +kernel
theorem dX7_raw_29 : decode cX7_raw 29 = .ok (.invokevirtual 155, 3) := by decide +kernel
theorem dX7_raw_32 : decode cX7_raw 32 = .ok (.lreturn, 1) := by decide +kernel
set_option maxRecDepth 20000 in
theorem ggX7_told_X7_loadTold : GoodIn wsX7_told wsX7_loadTold := goodIn_ca (goodIn_ca (goodIn_r _ [5, 6, 7, 8, 9, 10, 4, 11, 12, 13, 14, 15, 16, 17, 18, 19, 20, 21, 22, 23, 24, 25, 26, 27, 28, 29, 30, 31, 32, 33, 34, 35, 36, 37, 38, 39, 40, 50, 51, 52, 53, 54, 55, 56, 57, 58, 59, 60, 61, 62, 63, 64, 65, 66, 67, 68, 69, 70, 71] (by decide +kernel) (by decide +kernel)) (goodIn_sub (fun _ h => List.mem_cons_of_mem _ (List.mem_append_left _ (List.mem_append_left _ (List.mem_append_right _ h)))) (by decide +kernel))) (goodIn_sub (fun _ h => List.mem_cons_of_mem _ (List.mem_append_left _ (List.mem_append_right _ h))) (by decide +kernel))
set_option maxRecDepth 20000 in
theorem gX7_told_X7_loadTold : GoodIn wsX7_told (wsV RX7 159 RX7 yX7_loadTold wsX7_loadTold) := goodIn_app (goodIn_of _ (by decide +kernel)) ggX7_told_X7_loadTold
set_option maxRecDepth 20000 in
theorem ggX7_told_X7_endOfAnswer : GoodIn wsX7_told wsX7_endOfAnswer := goodIn_ca (goodIn_r _ [44, 45, 46, 7, 47, 48, 49, 58, 59, 60, 61, 62, 63, 64, 65, 69, 70, 71] (by decide +kernel) (by decide +kernel)) (goodIn_sub (fun _ h => List.mem_cons_of_mem _ (List.mem_append_right _ h)) (by decide +kernel))
set_option maxRecDepth 20000 in
theorem gX7_told_X7_endOfAnswer : GoodIn wsX7_told (wsV RX7 155 RX7 yX7_endOfAnswer wsX7_endOfAnswer) := goodIn_app (goodIn_of _ (by decide +kernel)) ggX7_told_X7_endOfAnswer
theorem dX7_told_0 : decode cX7_told 0 = .ok (.aload_n 0, 1) := by decide +kernel
theorem dX7_told_1 : decode cX7_told 1 = .ok (.iload_n 1, 1) := by decide +kernel
theorem dX7_told_2 : decode cX7_told 2 = .ok (.iload_n 2, 1) := by decide +kernel
theorem dX7_told_3 : decode cX7_told 3 = .ok (.invokevirtual 159, 3) := by decide +kernel
theorem dX7_told_6 : decode cX7_told 6 = .ok (.aload_n 0, 1) := by decide +kernel
theorem dX7_told_7 : decode cX7_told 7 = .ok (.iload_n 3, 1) := by decide +kernel
theorem dX7_told_8 : decode cX7_told 8 = .ok (.invokevirtual 155, 3) := by decide +kernel
theorem dX7_told_11 : decode cX7_told 11 = .ok (.lreturn, 1) := by decide +kernel
set_option maxRecDepth 20000 in
theorem ggX7_instead_X7_existing : GoodIn wsX7_instead wsX7_existing := goodIn_ca (goodIn_r _ [8, 9, 10, 11, 12, 142, 143, 144, 145, 146, 147, 148, 149] (by decide +kernel) (by decide +kernel)) (goodIn_sub (fun _ h => List.mem_cons_of_mem _ (List.mem_append_left _ (List.mem_append_left _ (List.mem_append_right _ h)))) (by decide +kernel))
set_option maxRecDepth 20000 in
theorem gX7_instead_X7_existing : GoodIn wsX7_instead (wsV RX7 148 RX7 yX7_existing wsX7_existing) := goodIn_app (goodIn_of _ (by decide +kernel)) ggX7_instead_X7_existing
set_option maxRecDepth 20000 in
theorem ggX7_instead_X7_requireWithin : GoodIn wsX7_instead wsX7_requireWithin := goodIn_ca (goodIn_r _ [15, 16, 17] (by decide +kernel) (by decide +kernel)) (goodIn_sub (fun _ h => List.mem_cons_of_mem _ (List.mem_append_left _ (List.mem_append_right _ h))) (by decide +kernel))
set_option maxRecDepth 20000 in
theorem gX7_instead_X7_requireWithin : GoodIn wsX7_instead (va_wsS RX7 51 yX7_requireWithin wsX7_requireWithin) := goodIn_app (goodIn_of _ (by decide +kernel)) ggX7_instead_X7_requireWithin
set_option maxRecDepth 20000 in
theorem ggX7_instead_X6_load : GoodIn wsX7_instead wsX6_load := goodIn_r _ [22, 23, 24, 25, 26, 27, 28, 29, 30, 31, 32, 33, 34, 35, 36, 37, 150, 151, 152, 153, 154, 155] (by decide +kernel) (by decide +kernel)
set_option maxRecDepth 20000 in
theorem gX7_instead_X6_load : GoodIn wsX7_instead (wsV RX7 152 RX6 yX6_load wsX6_load) := goodIn_app (goodIn_of _ (by decide +kernel)) ggX7_instead_X6_load
set_option maxRecDepth 20000 in
theorem ggX7_instead_X6_put : GoodIn wsX7_instead wsX6_put := goodIn_r _ [41, 23, 24, 42, 43, 25, 44, 150, 151, 152, 153, 154, 155] (by decide +kernel) (by decide +kernel)
set_option maxRecDepth 20000 in
theorem gX7_instead_X6_put : GoodIn wsX7_instead (wsV RX7 92 RX6 yX6_put wsX6_put) := goodIn_app (goodIn_of _ (by decide +kernel)) ggX7_instead_X6_put
set_option maxRecDepth 20000 in
theorem ggX7_instead_X7_suppose : GoodIn wsX7_instead wsX7_suppose := goodIn_ca (goodIn_r _ [48, 49, 50, 51, 52, 53, 3, 2, 4, 5, 6, 7, 8, 9, 10, 11, 12, 54, 55, 56, 57, 58, 59, 60, 61, 62, 63, 1, 18, 19, 20, 21, 22, 23, 24, 25, 26, 27, 28, 29, 30, 31, 32, 33, 34, 35, 36, 37, 64, 65, 66, 67, 68, 69, 70, 71, 72, 73, 74, 75, 76, 77, 78, 79, 80, 81, 82, 83, 84, 85, 86, 87, 88, 89, 90, 91, 92, 93, 94, 95, 96, 97, 98, 99, 100, 101, 102, 103, 104, 105, 106, 107, 108, 109, 110, 111, 112, 113, 114, 115, 116, 117, 118, 119, 120, 121, 122, 123, 124, 125, 126, 127, 38, 39, 40, 41, 42, 43, 44, 134, 135, 136, 137, 138, 139, 140, 141, 142, 143, 144, 145, 146, 147, 148, 149, 150, 151, 152, 153, 154, 155] (by decide +kernel) (by decide +kernel)) (goodIn_sub (fun _ h => List.mem_cons_of_mem _ (List.mem_append_left _ (List.mem_append_left _ (List.mem_append_right _ h)))) (by decide +kernel))
set_option maxRecDepth 20000 in
theorem gX7_instead_X7_suppose : GoodIn wsX7_instead (wsV RX7 163 RX7 yX7_suppose wsX7_suppose) := goodIn_app (goodIn_of _ (by decide +kernel)) ggX7_instead_X7_suppose
set_option maxRecDepth 20000 in
theorem ggX7_instead_X7_loadSupposed : GoodIn wsX7_instead wsX7_loadSupposed := goodIn_ca (goodIn_r _ [63, 3, 1, 4, 5, 6, 7, 8, 9, 10, 11, 12, 54, 55, 56, 57, 58, 59, 18, 19, 20, 21, 22, 23, 24, 25, 26, 27, 28, 29, 30, 31, 32, 33, 34, 35, 36, 37, 142, 143, 144, 145, 146, 147, 148, 149, 134, 135, 136, 137, 138, 139, 140, 141, 150, 151, 152, 153, 154, 155] (by decide +kernel) (by decide +kernel)) (goodIn_sub (fun _ h => List.mem_cons_of_mem _ (List.mem_append_left _ (List.mem_append_left _ (List.mem_append_right _ h)))) (by decide +kernel))
set_option maxRecDepth 20000 in
theorem gX7_instead_X7_loadSupposed : GoodIn wsX7_instead (wsV RX7 166 RX7 yX7_loadSupposed wsX7_loadSupposed) := goodIn_app (goodIn_of _ (by decide +kernel)) ggX7_instead_X7_loadSupposed
set_option maxRecDepth 20000 in
theorem ggX7_instead_X7_endOfAnswer : GoodIn wsX7_instead wsX7_endOfAnswer := goodIn_ca (goodIn_r _ [131, 132, 133, 2, 68, 71, 70, 142, 143, 144, 145, 146, 147, 148, 149, 153, 154, 155] (by decide +kernel) (by decide +kernel)) (goodIn_sub (fun _ h => List.mem_cons_of_mem _ (List.mem_append_right _ h)) (by decide +kernel))
set_option maxRecDepth 20000 in
theorem gX7_instead_X7_endOfAnswer : GoodIn wsX7_instead (wsV RX7 155 RX7 yX7_endOfAnswer wsX7_endOfAnswer) := goodIn_app (goodIn_of _ (by decide +kernel)) ggX7_instead_X7_endOfAnswer
theorem dX7_instead_0 : decode cX7_instead 0 = .ok (.aload_n 0, 1) := by decide +kernel
theorem dX7_instead_1 : decode cX7_instead 1 = .ok (.iload_n 1, 1) := by decide +kernel
theorem dX7_instead_2 : decode cX7_instead 2 = .ok (.invokevirtual 148, 3) := by decide +kernel
theorem dX7_instead_5 : decode cX7_instead 5 = .ok (.pop, 1) := by decide +kernel
theorem dX7_instead_6 : decode cX7_instead 6 = .ok (.aload_n 0, 1) := by decide +kernel
theorem dX7_instead_7 : decode cX7_instead 7 = .ok (.iload_n 2, 1) := by decide +kernel
theorem dX7_instead_8 : decode cX7_instead 8 = .ok (.invokevirtual 148, 3) := by decide +kernel
theorem dX7_instead_11 : decode cX7_instead 11 = .ok (.pop, 1) := by decide +kernel
theorem dX7_instead_12 : decode cX7_instead 12 = .ok (.aload_n 0, 1) := by decide +kernel
theorem dX7_instead_13 : decode cX7_instead 13 = .ok (.iload_n 3, 1) := by decide +kernel
theorem dX7_instead_14 : decode cX7_instead 14 = .ok (.invokevirtual 148, 3) := by decide +kernel
theorem dX7_instead_17 : decode cX7_instead 17 = .ok (.astore 6, 2) := by decide +kernel
theorem dX7_instead_19 : decode cX7_instead 19 = .ok (.iload 4, 2) := by decide +kernel
theorem dX7_instead_21 : decode cX7_instead 21 = .ok (.iconst 0, 1) := by decide +kernel
theorem dX7_instead_22 : decode cX7_instead 22 = .ok (.bipush 24, 2) := by decide +kernel
theorem dX7_instead_24 : decode cX7_instead 24 = .ok (.invokestatic 51, 3) := by decide +kernel
theorem dX7_instead_27 : decode cX7_instead 27 = .ok (.aload 6, 2) := by decide +kernel
theorem dX7_instead_29 : decode cX7_instead 29 = .ok (.getfield 89, 3) := by decide +kernel
theorem dX7_instead_32 : decode cX7_instead 32 = .ok (.iload 4, 2) := by decide +kernel
theorem dX7_instead_34 : decode cX7_instead 34 = .ok (.aload_n 0, 1) := by decide +kernel
theorem dX7_instead_35 : decode cX7_instead 35 = .ok (.getfield 22, 3) := by decide +kernel
theorem dX7_instead_38 : decode cX7_instead 38 = .ok (.invokevirtual 152, 3) := by decide +kernel
theorem dX7_instead_41 : decode cX7_instead 41 = .ok (.aload_n 0, 1) := by decide +kernel
theorem dX7_instead_42 : decode cX7_instead 42 = .ok (.getfield 37, 3) := by decide +kernel
theorem dX7_instead_45 : decode cX7_instead 45 = .ok (.iload_n 2, 1) := by decide +kernel
theorem dX7_instead_46 : decode cX7_instead 46 = .ok (.aload_n 0, 1) := by decide +kernel
theorem dX7_instead_47 : decode cX7_instead 47 = .ok (.getfield 22, 3) := by decide +kernel
theorem dX7_instead_50 : decode cX7_instead 50 = .ok (.invokevirtual 92, 3) := by decide +kernel
theorem dX7_instead_53 : decode cX7_instead 53 = .ok (.iload_n 2, 1) := by decide +kernel
theorem dX7_instead_54 : decode cX7_instead 54 = .ok (.iconst 1, 1) := by decide +kernel
theorem dX7_instead_55 : decode cX7_instead 55 = .ok (.iadd, 1) := by decide +kernel
theorem dX7_instead_56 : decode cX7_instead 56 = .ok (.istore 7, 2) := by decide +kernel
theorem dX7_instead_58 : decode cX7_instead 58 = .ok (.iload 7, 2) := by decide +kernel
theorem dX7_instead_60 : decode cX7_instead 60 = .ok (.iload_n 1, 1) := by decide +kernel
theorem dX7_instead_61 : decode cX7_instead 61 = .ok (.if_icmp .gt 18, 3) := by decide +kernel
theorem dX7_instead_64 : decode cX7_instead 64 = .ok (.aload_n 0, 1) := by decide +kernel
theorem dX7_instead_65 : decode cX7_instead 65 = .ok (.iload 7, 2) := by decide +kernel
theorem dX7_instead_67 : decode cX7_instead 67 = .ok (.iload_n 2, 1) := by decide +kernel
theorem dX7_instead_68 : decode cX7_instead 68 = .ok (.iload 4, 2) := by decide +kernel
theorem dX7_instead_70 : decode cX7_instead 70 = .ok (.invokevirtual 163, 3) := by decide +kernel
theorem dX7_instead_73 : decode cX7_instead 73 = .ok (.iinc 7 1, 3) := by decide +kernel
theorem dX7_instead_76 : decode cX7_instead 76 = .ok (.goto (-18), 3) := by decide +kernel
theorem dX7_instead_79 : decode cX7_instead 79 = .ok (.aload_n 0, 1) := by decide +kernel
theorem dX7_instead_80 : decode cX7_instead 80 = .ok (.iload_n 1, 1) := by decide +kernel
theorem dX7_instead_81 : decode cX7_instead 81 = .ok (.iload_n 2, 1) := by decide +kernel
theorem dX7_instead_82 : decode cX7_instead 82 = .ok (.iload 4, 2) := by decide +kernel
theorem dX7_instead_84 : decode cX7_instead 84 = .ok (.aload_n 0, 1) := by decide +kernel
theorem dX7_instead_85 : decode cX7_instead 85 = .ok (.getfield 22, 3) := by decide +kernel
theorem dX7_instead_88 : decode cX7_instead 88 = .ok (.invokevirtual 166, 3) := by decide +kernel
theorem dX7_instead_91 : decode cX7_instead 91 = .ok (.aload_n 0, 1) := by decide +kernel
theorem dX7_instead_92 : decode cX7_instead 92 = .ok (.iload 5, 2) := by decide +kernel
theorem dX7_instead_94 : decode cX7_instead 94 = .ok (.invokevirtual 155, 3) := by decide +kernel
theorem dX7_instead_97 : decode cX7_instead 97 = .ok (.lreturn, 1) := by decide +kernel
set_option maxRecDepth 20000 in
theorem ggX7_place_X7_existing : GoodIn wsX7_place wsX7_existing := goodIn_ca (goodIn_r _ [10, 11, 12, 13, 14, 51, 52, 53, 54, 55, 56, 57, 58] (by decide +kernel) (by decide +kernel)) (goodIn_sub (fun _ h => List.mem_cons_of_mem _ (List.mem_append_left _ (List.mem_append_right _ h))) (by decide +kernel))
set_option maxRecDepth 20000 in
theorem gX7_place_X7_existing : GoodIn wsX7_place (wsV RX7 148 RX7 yX7_existing wsX7_existing) := goodIn_app (goodIn_of _ (by decide +kernel)) ggX7_place_X7_existing
set_option maxRecDepth 20000 in
theorem ggX7_place_X7_requireWithin : GoodIn wsX7_place wsX7_requireWithin := goodIn_ca (goodIn_r _ [17, 18, 19] (by decide +kernel) (by decide +kernel)) (goodIn_sub (fun _ h => List.mem_cons_of_mem _ (List.mem_append_right _ h)) (by decide +kernel))
set_option maxRecDepth 20000 in
theorem gX7_place_X7_requireWithin : GoodIn wsX7_place (va_wsS RX7 51 yX7_requireWithin wsX7_requireWithin) := goodIn_app (goodIn_of _ (by decide +kernel)) ggX7_place_X7_requireWithin
set_option maxRecDepth 20000 in
theorem ggX7_place_X6_load : GoodIn wsX7_place wsX6_load := goodIn_r _ [24, 25, 26, 27, 28, 29, 30, 31, 32, 33, 34, 35, 36, 37, 38, 39, 62, 63, 64, 59, 60, 61] (by decide +kernel) (by decide +kernel)
set_option maxRecDepth 20000 in
theorem gX7_place_X6_load : GoodIn wsX7_place (wsV RX7 152 RX6 yX6_load wsX6_load) := goodIn_app (goodIn_of _ (by decide +kernel)) ggX7_place_X6_load
set_option maxRecDepth 20000 in
theorem ggX7_place_X7_unitsAt : GoodIn wsX7_place wsX7_unitsAt := goodIn_r _ [42] (by decide +kernel) (by decide +kernel)
set_option maxRecDepth 20000 in
theorem gX7_place_X7_unitsAt : GoodIn wsX7_place (va_wsS RX7 71 yX7_unitsAt wsX7_unitsAt) := goodIn_app (goodIn_of _ (by decide +kernel)) ggX7_place_X7_unitsAt
theorem dX7_place_0 : decode cX7_place 0 = .ok (.aload_n 0, 1) := by decide +kernel
theorem dX7_place_1 : decode cX7_place 1 = .ok (.iload_n 1, 1) := by decide +kernel
theorem dX7_place_2 : decode cX7_place 2 = .ok (.invokevirtual 148, 3) := by decide +kernel
theorem dX7_place_5 : decode cX7_place 5 = .ok (.astore_n 3, 1) := by decide +kernel
theorem dX7_place_6 : decode cX7_place 6 = .ok (.iload_n 2, 1) := by decide +kernel
theorem dX7_place_7 : decode cX7_place 7 = .ok (.iconst 0, 1) := by decide +kernel
theorem dX7_place_8 : decode cX7_place 8 = .ok (.bipush 24, 2) := by decide +kernel
theorem dX7_place_10 : decode cX7_place 10 = .ok (.invokestatic 51, 3) := by decide +kernel
theorem dX7_place_13 : decode cX7_place 13 = .ok (.iload_n 2, 1) := by decide +kernel
theorem dX7_place_14 : decode cX7_place 14 = .ok (.istore 4, 2) := by decide +kernel
theorem dX7_place_16 : decode cX7_place 16 = .ok (.iload 4, 2) := by decide +kernel
theorem dX7_place_18 : decode cX7_place 18 = .ok (.bipush 24, 2) := by decide +kernel
theorem dX7_place_20 : decode cX7_place 20 = .ok (.if_icmp .gt 61, 3) := by decide +kernel
theorem dX7_place_23 : decode cX7_place 23 = .ok (.aload_n 3, 1) := by decide +kernel
theorem dX7_place_24 : decode cX7_place 24 = .ok (.getfield 170, 3) := by decide +kernel
theorem dX7_place_27 : decode cX7_place 27 = .ok (.iload 4, 2) := by decide +kernel
theorem dX7_place_29 : decode cX7_place 29 = .ok (.aload_n 0, 1) := by decide +kernel
theorem dX7_place_30 : decode cX7_place 30 = .ok (.getfield 22, 3) := by decide +kernel
theorem dX7_place_33 : decode cX7_place 33 = .ok (.invokevirtual 152, 3) := by decide +kernel
theorem dX7_place_36 : decode cX7_place 36 = .ok (.aload_n 0, 1) := by decide +kernel
theorem dX7_place_37 : decode cX7_place 37 = .ok (.getfield 22, 3) := by decide +kernel
theorem dX7_place_40 : decode cX7_place 40 = .ok (.getfield 173, 3) := by decide +kernel
theorem dX7_place_43 : decode cX7_place 43 = .ok (.ifCond .eq 32, 3) := by decide +kernel
theorem dX7_place_46 : decode cX7_place 46 = .ok (.aload_n 0, 1) := by decide +kernel
theorem dX7_place_47 : decode cX7_place 47 = .ok (.getfield 22, 3) := by decide +kernel
theorem dX7_place_50 : decode cX7_place 50 = .ok (.getfield 177, 3) := by decide +kernel
theorem dX7_place_53 : decode cX7_place 53 = .ok (.aload_n 0, 1) := by decide +kernel
theorem dX7_place_54 : decode cX7_place 54 = .ok (.getfield 22, 3) := by decide +kernel
theorem dX7_place_57 : decode cX7_place 57 = .ok (.getfield 181, 3) := by decide +kernel
theorem dX7_place_60 : decode cX7_place 60 = .ok (.lsub, 1) := by decide +kernel
theorem dX7_place_61 : decode cX7_place 61 = .ok (.iload 4, 2) := by decide +kernel
theorem dX7_place_63 : decode cX7_place 63 = .ok (.iload_n 2, 1) := by decide +kernel
theorem dX7_place_64 : decode cX7_place 64 = .ok (.isub, 1) := by decide +kernel
theorem dX7_place_65 : decode cX7_place 65 = .ok (.invokestatic 71, 3) := by decide +kernel
theorem dX7_place_68 : decode cX7_place 68 = .ok (.lcmp, 1) := by decide +kernel
theorem dX7_place_69 : decode cX7_place 69 = .ok (.ifCond .gt 6, 3) := by decide +kernel
theorem dX7_place_72 : decode cX7_place 72 = .ok (.iload 4, 2) := by decide +kernel
theorem dX7_place_74 : decode cX7_place 74 = .ok (.ireturn, 1) := by decide +kernel
theorem dX7_place_75 : decode cX7_place 75 = .ok (.iinc 4 1, 3) := by decide +kernel
theorem dX7_place_78 : decode cX7_place 78 = .ok (.goto (-62), 3) := by decide +kernel
theorem dX7_place_81 : decode cX7_place 81 = .ok (.iconst (-1), 1) := by decide +kernel
theorem dX7_place_82 : decode cX7_place 82 = .ok (.ireturn, 1) := by decide +kernel
set_option maxRecDepth 20000 in
theorem ggX7_compare_X7_existing : GoodIn wsX7_compare wsX7_existing := goodIn_ca (goodIn_r _ [5, 6, 7, 8, 9, 45, 46, 47, 48, 49, 50, 51, 52] (by decide +kernel) (by decide +kernel)) (goodIn_sub (fun _ h => List.mem_cons_of_mem _ (List.mem_append_left _ (List.mem_append_right _ h))) (by decide +kernel))
set_option maxRecDepth 20000 in
theorem gX7_compare_X7_existing : GoodIn wsX7_compare (wsV RX7 148 RX7 yX7_existing wsX7_existing) := goodIn_app (goodIn_of _ (by decide +kernel)) ggX7_compare_X7_existing
set_option maxRecDepth 20000 in
theorem ggX7_compare_X7_requireWithin : GoodIn wsX7_compare wsX7_requireWithin := goodIn_ca (goodIn_r _ [12, 13, 14] (by decide +kernel) (by decide +kernel)) (goodIn_sub (fun _ h => List.mem_cons_of_mem _ (List.mem_append_right _ h)) (by decide +kernel))
set_option maxRecDepth 20000 in
theorem gX7_compare_X7_requireWithin : GoodIn wsX7_compare (va_wsS RX7 51 yX7_requireWithin wsX7_requireWithin) := goodIn_app (goodIn_of _ (by decide +kernel)) ggX7_compare_X7_requireWithin
set_option maxRecDepth 20000 in
theorem ggX7_compare_X7_compareAt : GoodIn wsX7_compare wsX7_compareAt := goodIn_r _ [18, 19, 20, 21, 22, 23, 24, 25, 26, 27, 28, 29, 30, 31, 32, 33, 34, 35, 36, 37, 38, 39, 40, 41, 42, 43, 44, 53, 54, 55, 56, 57, 58, 59, 60, 45, 46, 47, 48, 49, 50, 51, 52, 61, 62, 63, 64, 65, 66] (by decide +kernel) (by decide +kernel)
set_option maxRecDepth 20000 in
theorem gX7_compare_X7_compareAt : GoodIn wsX7_compare (wsV RX7 184 RX7 yX7_compareAt wsX7_compareAt) := goodIn_app (goodIn_of _ (by decide +kernel)) ggX7_compare_X7_compareAt
theorem dX7_compare_0 : decode cX7_compare 0 = .ok (.aload_n 0, 1) := by decide +kernel
theorem dX7_compare_1 : decode cX7_compare 1 = .ok (.iload_n 1, 1) := by decide +kernel
theorem dX7_compare_2 : decode cX7_compare 2 = .ok (.invokevirtual 148, 3) := by decide +kernel
theorem dX7_compare_5 : decode cX7_compare 5 = .ok (.astore 4, 2) := by decide +kernel
theorem dX7_compare_7 : decode cX7_compare 7 = .ok (.aload_n 0, 1) := by decide +kernel
theorem dX7_compare_8 : decode cX7_compare 8 = .ok (.iload_n 2, 1) := by decide +kernel
theorem dX7_compare_9 : decode cX7_compare 9 = .ok (.invokevirtual 148, 3) := by decide +kernel
theorem dX7_compare_12 : decode cX7_compare 12 = .ok (.astore 5, 2) := by decide +kernel
theorem dX7_compare_14 : decode cX7_compare 14 = .ok (.iload_n 3, 1) := by decide +kernel
theorem dX7_compare_15 : decode cX7_compare 15 = .ok (.iconst 0, 1) := by decide +kernel
theorem dX7_compare_16 : decode cX7_compare 16 = .ok (.bipush 24, 2) := by decide +kernel
theorem dX7_compare_18 : decode cX7_compare 18 = .ok (.invokestatic 51, 3) := by decide +kernel
theorem dX7_compare_21 : decode cX7_compare 21 = .ok (.aload_n 0, 1) := by decide +kernel
theorem dX7_compare_22 : decode cX7_compare 22 = .ok (.aload 4, 2) := by decide +kernel
theorem dX7_compare_24 : decode cX7_compare 24 = .ok (.aload 5, 2) := by decide +kernel
theorem dX7_compare_26 : decode cX7_compare 26 = .ok (.iload_n 3, 1) := by decide +kernel
theorem dX7_compare_27 : decode cX7_compare 27 = .ok (.invokevirtual 184, 3) := by decide +kernel
theorem dX7_compare_30 : decode cX7_compare 30 = .ok (.ireturn, 1) := by decide +kernel
set_option maxRecDepth 20000 in
theorem ggX7_decided_X7_existing : GoodIn wsX7_decided wsX7_existing := goodIn_ca (goodIn_r _ [5, 6, 7, 8, 9, 40, 41, 42, 43, 44, 45, 46, 47] (by decide +kernel) (by decide +kernel)) (goodIn_sub (fun _ h => List.mem_cons_of_mem _ (List.mem_append_right _ h)) (by decide +kernel))
set_option maxRecDepth 20000 in
theorem gX7_decided_X7_existing : GoodIn wsX7_decided (wsV RX7 148 RX7 yX7_existing wsX7_existing) := goodIn_app (goodIn_of _ (by decide +kernel)) ggX7_decided_X7_existing
set_option maxRecDepth 20000 in
theorem ggX7_decided_X7_compareAt : GoodIn wsX7_decided wsX7_compareAt := goodIn_r _ [13, 14, 15, 16, 17, 18, 19, 20, 21, 22, 23, 24, 25, 26, 27, 28, 29, 30, 31, 32, 33, 34, 35, 36, 37, 38, 39, 48, 49, 50, 51, 52, 53, 54, 55, 40, 41, 42, 43, 44, 45, 46, 47, 56, 57, 58, 59, 60, 61] (by decide +kernel) (by decide +kernel)
set_option maxRecDepth 20000 in
theorem gX7_decided_X7_compareAt : GoodIn wsX7_decided (wsV RX7 184 RX7 yX7_compareAt wsX7_compareAt) := goodIn_app (goodIn_of _ (by decide +kernel)) ggX7_decided_X7_compareAt
theorem dX7_decided_0 : decode cX7_decided 0 = .ok (.aload_n 0, 1) := by decide +kernel
theorem dX7_decided_1 : decode cX7_decided 1 = .ok (.iload_n 1, 1) := by decide +kernel
theorem dX7_decided_2 : decode cX7_decided 2 = .ok (.invokevirtual 148, 3) := by decide +kernel
theorem dX7_decided_5 : decode cX7_decided 5 = .ok (.astore_n 3, 1) := by decide +kernel
theorem dX7_decided_6 : decode cX7_decided 6 = .ok (.aload_n 0, 1) := by decide +kernel
theorem dX7_decided_7 : decode cX7_decided 7 = .ok (.iload_n 2, 1) := by decide +kernel
theorem dX7_decided_8 : decode cX7_decided 8 = .ok (.invokevirtual 148, 3) := by decide +kernel
theorem dX7_decided_11 : decode cX7_decided 11 = .ok (.astore 4, 2) := by decide +kernel
theorem dX7_decided_13 : decode cX7_decided 13 = .ok (.iconst 0, 1) := by decide +kernel
theorem dX7_decided_14 : decode cX7_decided 14 = .ok (.istore 5, 2) := by decide +kernel
theorem dX7_decided_16 : decode cX7_decided 16 = .ok (.iload 5, 2) := by decide +kernel
theorem dX7_decided_18 : decode cX7_decided 18 = .ok (.bipush 24, 2) := by decide +kernel
theorem dX7_decided_20 : decode cX7_decided 20 = .ok (.if_icmp .gt 24, 3) := by decide +kernel
theorem dX7_decided_23 : decode cX7_decided 23 = .ok (.aload_n 0, 1) := by decide +kernel
theorem dX7_decided_24 : decode cX7_decided 24 = .ok (.aload_n 3, 1) := by decide +kernel
theorem dX7_decided_25 : decode cX7_decided 25 = .ok (.aload 4, 2) := by decide +kernel
theorem dX7_decided_27 : decode cX7_decided 27 = .ok (.iload 5, 2) := by decide +kernel
theorem dX7_decided_29 : decode cX7_decided 29 = .ok (.invokevirtual 184, 3) := by decide +kernel
theorem dX7_decided_32 : decode cX7_decided 32 = .ok (.ifCond .eq 6, 3) := by decide +kernel
theorem dX7_decided_35 : decode cX7_decided 35 = .ok (.iload 5, 2) := by decide +kernel
theorem dX7_decided_37 : decode cX7_decided 37 = .ok (.ireturn, 1) := by decide +kernel
theorem dX7_decided_38 : decode cX7_decided 38 = .ok (.iinc 5 1, 3) := by decide +kernel
theorem dX7_decided_41 : decode cX7_decided 41 = .ok (.goto (-25), 3) := by decide +kernel
theorem dX7_decided_44 : decode cX7_decided 44 = .ok (.iconst (-1), 1) := by decide +kernel
theorem dX7_decided_45 : decode cX7_decided 45 = .ok (.ireturn, 1) := by decide +kernel
set_option maxRecDepth 20000 in
theorem ggX7_decimals_X7_loadTold : GoodIn wsX7_decimals wsX7_loadTold := goodIn_ca (goodIn_ca (goodIn_r _ [5, 6, 7, 8, 9, 10, 4, 11, 12, 13, 14, 15, 16, 17, 18, 19, 20, 21, 22, 23, 24, 25, 26, 27, 28, 29, 30, 31, 32, 33, 34, 35, 36, 37, 38, 39, 40, 62, 63, 64, 65, 66, 67, 68, 69, 70, 71, 72, 73, 74, 75, 76, 77, 78, 79, 80, 81, 82, 83] (by decide +kernel) (by decide +kernel)) (goodIn_sub (fun _ h => List.mem_cons_of_mem _ (List.mem_append_left _ (List.mem_append_right _ h))) (by decide +kernel))) (goodIn_sub (fun _ h => List.mem_cons_of_mem _ (List.mem_append_right _ h)) (by decide +kernel))
set_option maxRecDepth 20000 in
theorem gX7_decimals_X7_loadTold : GoodIn wsX7_decimals (wsV RX7 159 RX7 yX7_loadTold wsX7_loadTold) := goodIn_app (goodIn_of _ (by decide +kernel)) ggX7_decimals_X7_loadTold
set_option maxRecDepth 20000 in
theorem ggX7_decimals_X7_sureDecimals : GoodIn wsX7_decimals wsX7_sureDecimals := goodIn_r _ [44, 7, 45, 46, 47, 48, 49, 4, 50, 51, 52, 53, 54, 55, 56, 57, 58, 59, 60, 61, 70, 71, 72, 73, 74, 75, 76, 77, 81, 82, 83] (by decide +kernel) (by decide +kernel)
set_option maxRecDepth 20000 in
theorem gX7_decimals_X7_sureDecimals : GoodIn wsX7_decimals (wsV RX7 188 RX7 yX7_sureDecimals wsX7_sureDecimals) := goodIn_app (goodIn_of _ (by decide +kernel)) ggX7_decimals_X7_sureDecimals
theorem dX7_decimals_0 : decode cX7_decimals 0 = .ok (.aload_n 0, 1) := by decide +kernel
theorem dX7_decimals_1 : decode cX7_decimals 1 = .ok (.iload_n 1, 1) := by decide +kernel
theorem dX7_decimals_2 : decode cX7_decimals 2 = .ok (.iload_n 2, 1) := by decide +kernel
theorem dX7_decimals_3 : decode cX7_decimals 3 = .ok (.invokevirtual 159, 3) := by decide +kernel
theorem dX7_decimals_6 : decode cX7_decimals 6 = .ok (.aload_n 0, 1) := by decide +kernel
theorem dX7_decimals_7 : decode cX7_decimals 7 = .ok (.iload_n 2, 1) := by decide +kernel
theorem dX7_decimals_8 : decode cX7_decimals 8 = .ok (.invokevirtual 188, 3) := by decide +kernel
theorem dX7_decimals_11 : decode cX7_decimals 11 = .ok (.ireturn, 1) := by decide +kernel
set_option maxRecDepth 20000 in
theorem ggX7_decimal_X7_loadTold : GoodIn wsX7_decimal wsX7_loadTold := goodIn_ca (goodIn_ca (goodIn_r _ [10, 11, 3, 12, 13, 14, 9, 15, 16, 17, 18, 19, 20, 21, 22, 23, 24, 25, 26, 27, 28, 29, 30, 31, 32, 33, 34, 35, 36, 37, 38, 39, 40, 41, 42, 43, 44, 79, 80, 81, 82, 83, 84, 85, 86, 68, 69, 70, 71, 72, 73, 74, 75, 87, 88, 89, 76, 77, 78] (by decide +kernel) (by decide +kernel)) (goodIn_sub (fun _ h => List.mem_cons_of_mem _ (List.mem_append_left _ (List.mem_append_right _ h))) (by decide +kernel))) (goodIn_sub (fun _ h => List.mem_cons_of_mem _ (List.mem_append_right _ h)) (by decide +kernel))
set_option maxRecDepth 20000 in
theorem gX7_decimal_X7_loadTold : GoodIn wsX7_decimal (wsV RX7 159 RX7 yX7_loadTold wsX7_loadTold) := goodIn_app (goodIn_of _ (by decide +kernel)) ggX7_decimal_X7_loadTold
set_option maxRecDepth 20000 in
theorem ggX7_decimal_X7_requireWithin : GoodIn wsX7_decimal wsX7_requireWithin := goodIn_ca (goodIn_r _ [22, 23, 24] (by decide +kernel) (by decide +kernel)) (goodIn_sub (fun _ h => List.mem_cons_of_mem _ (List.mem_append_right _ h)) (by decide +kernel))
set_option maxRecDepth 20000 in
theorem gX7_decimal_X7_requireWithin : GoodIn wsX7_decimal (va_wsS RX7 51 yX7_requireWithin wsX7_requireWithin) := goodIn_app (goodIn_of _ (by decide +kernel)) ggX7_decimal_X7_requireWithin
set_option maxRecDepth 20000 in
theorem ggX7_decimal_X7_sureDecimals : GoodIn wsX7_decimal wsX7_sureDecimals := goodIn_r _ [48, 3, 49, 4, 50, 51, 52, 9, 53, 54, 55, 56, 57, 58, 59, 60, 61, 62, 63, 64, 68, 69, 70, 71, 72, 73, 74, 75, 76, 77, 78] (by decide +kernel) (by decide +kernel)
set_option maxRecDepth 20000 in
theorem gX7_decimal_X7_sureDecimals : GoodIn wsX7_decimal (wsV RX7 188 RX7 yX7_sureDecimals wsX7_sureDecimals) := goodIn_app (goodIn_of _ (by decide +kernel)) ggX7_decimal_X7_sureDecimals
set_option maxRecDepth 20000 in
theorem ggX7_decimal_X7_shifted : GoodIn wsX7_decimal wsX7_shifted := goodIn_r _ [53, 54, 55, 56, 9, 57, 58, 59, 60, 61, 62, 63, 64] (by decide +kernel) (by decide +kernel)
set_option maxRecDepth 20000 in
theorem gX7_decimal_X7_shifted : GoodIn wsX7_decimal (va_wsS RX7 194 yX7_shifted wsX7_shifted) := goodIn_app (goodIn_of _ (by decide +kernel)) ggX7_decimal_X7_shifted
set_option maxRecDepth 20000 in
theorem ggX7_decimal_J9_floorMod_f86c9 : GoodIn wsX7_decimal wsJ9_floorMod_f86c9 := goodIn_r _ [67] (by decide +kernel) (by decide +kernel)
set_option maxRecDepth 20000 in
theorem gX7_decimal_J9_floorMod_f86c9 : GoodIn wsX7_decimal (va_wsS RX7 200 yJ9_floorMod_f86c9 wsJ9_floorMod_f86c9) := goodIn_app (goodIn_of _ (by decide +kernel)) ggX7_decimal_J9_floorMod_f86c9
theorem dX7_decimal_0 : decode cX7_decimal 0 = .ok (.aload_n 0, 1) := by decide +kernel
theorem dX7_decimal_1 : decode cX7_decimal 1 = .ok (.iload_n 1, 1) := by decide +kernel
theorem dX7_decimal_2 : decode cX7_decimal 2 = .ok (.iload_n 2, 1) := by decide +kernel
theorem dX7_decimal_3 : decode cX7_decimal 3 = .ok (.invokevirtual 159, 3) := by decide +kernel
theorem dX7_decimal_6 : decode cX7_decimal 6 = .ok (.iload_n 3, 1) := by decide +kernel
theorem dX7_decimal_7 : decode cX7_decimal 7 = .ok (.iconst 0, 1) := by decide +kernel
theorem dX7_decimal_8 : decode cX7_decimal 8 = .ok (.bipush 7, 2) := by decide +kernel
theorem dX7_decimal_10 : decode cX7_decimal 10 = .ok (.invokestatic 51, 3) := by decide +kernel
theorem dX7_decimal_13 : decode cX7_decimal 13 = .ok (.iload_n 3, 1) := by decide +kernel
theorem dX7_decimal_14 : decode cX7_decimal 14 = .ok (.aload_n 0, 1) := by decide +kernel
theorem dX7_decimal_15 : decode cX7_decimal 15 = .ok (.iload_n 2, 1) := by decide +kernel
theorem dX7_decimal_16 : decode cX7_decimal 16 = .ok (.invokevirtual 188, 3) := by decide +kernel
theorem dX7_decimal_19 : decode cX7_decimal 19 = .ok (.if_icmp .le 13, 3) := by decide +kernel
theorem dX7_decimal_22 : decode cX7_decimal 22 = .ok (.new 134, 3) := by decide +kernel
theorem dX7_decimal_25 : decode cX7_decimal 25 = .ok (.dup, 1) := by decide +kernel
theorem dX7_decimal_26 : decode cX7_decimal 26 = .ok (.ldc 192, 2) := by decide +kernel
theorem dX7_decimal_28 : decode cX7_decimal 28 = .ok (.invokespecial 138, 3) := by decide +kernel
theorem dX7_decimal_31 : decode cX7_decimal 31 = .ok (.athrow, 1) := by decide +kernel
theorem dX7_decimal_32 : decode cX7_decimal 32 = .ok (.aload_n 0, 1) := by decide +kernel
theorem dX7_decimal_33 : decode cX7_decimal 33 = .ok (.getfield 22, 3) := by decide +kernel
theorem dX7_decimal_36 : decode cX7_decimal 36 = .ok (.getfield 181, 3) := by decide +kernel
theorem dX7_decimal_39 : decode cX7_decimal 39 = .ok (.iload_n 3, 1) := by decide +kernel
theorem dX7_decimal_40 : decode cX7_decimal 40 = .ok (.iload_n 2, 1) := by decide +kernel
theorem dX7_decimal_41 : decode cX7_decimal 41 = .ok (.invokestatic 194, 3) := by decide +kernel
theorem dX7_decimal_44 : decode cX7_decimal 44 = .ok (.lstore 4, 2) := by decide +kernel
theorem dX7_decimal_46 : decode cX7_decimal 46 = .ok (.iload_n 3, 1) := by decide +kernel
theorem dX7_decimal_47 : decode cX7_decimal 47 = .ok (.ifCond .ne 8, 3) := by decide +kernel
theorem dX7_decimal_50 : decode cX7_decimal 50 = .ok (.lload 4, 2) := by decide +kernel
theorem dX7_decimal_52 : decode cX7_decimal 52 = .ok (.goto 11, 3) := by decide +kernel
theorem dX7_decimal_55 : decode cX7_decimal 55 = .ok (.lload 4, 2) := by decide +kernel
theorem dX7_decimal_57 : decode cX7_decimal 57 = .ok (.ldc2_w 198, 3) := by decide +kernel
theorem dX7_decimal_60 : decode cX7_decimal 60 = .ok (.invokestatic 200, 3) := by decide +kernel
theorem dX7_decimal_63 : decode cX7_decimal 63 = .ok (.l2i, 1) := by decide +kernel
theorem dX7_decimal_64 : decode cX7_decimal 64 = .ok (.ireturn, 1) := by decide +kernel
set_option maxRecDepth 20000 in
theorem ggX7_quotient_X7_loadTold : GoodIn wsX7_quotient wsX7_loadTold := goodIn_ca (goodIn_ca (goodIn_r _ [13, 14, 3, 15, 16, 17, 12, 18, 19, 20, 21, 22, 23, 24, 25, 26, 27, 28, 29, 30, 31, 32, 33, 34, 35, 36, 37, 38, 39, 40, 41, 42, 43, 44, 45, 46, 47, 89, 90, 91, 92, 93, 94, 95, 96, 78, 79, 80, 81, 82, 83, 84, 85, 97, 98, 99, 86, 87, 88] (by decide +kernel) (by decide +kernel)) (goodIn_sub (fun _ h => List.mem_cons_of_mem _ (List.mem_append_left _ (List.mem_append_right _ h))) (by decide +kernel))) (goodIn_sub (fun _ h => List.mem_cons_of_mem _ (List.mem_append_right _ h)) (by decide +kernel))
set_option maxRecDepth 20000 in
theorem gX7_quotient_X7_loadTold : GoodIn wsX7_quotient (wsV RX7 159 RX7 yX7_loadTold wsX7_loadTold) := goodIn_app (goodIn_of _ (by decide +kernel)) ggX7_quotient_X7_loadTold
set_option maxRecDepth 20000 in
theorem ggX7_quotient_X7_requireWithin : GoodIn wsX7_quotient wsX7_requireWithin := goodIn_ca (goodIn_r _ [25, 26, 27] (by decide +kernel) (by decide +kernel)) (goodIn_sub (fun _ h => List.mem_cons_of_mem _ (List.mem_append_right _ h)) (by decide +kernel))
set_option maxRecDepth 20000 in
theorem gX7_quotient_X7_requireWithin : GoodIn wsX7_quotient (va_wsS RX7 51 yX7_requireWithin wsX7_requireWithin) := goodIn_app (goodIn_of _ (by decide +kernel)) ggX7_quotient_X7_requireWithin
set_option maxRecDepth 20000 in
theorem ggX7_quotient_X7_unitsAt : GoodIn wsX7_quotient wsX7_unitsAt := goodIn_r _ [50] (by decide +kernel) (by decide +kernel)
set_option maxRecDepth 20000 in
theorem gX7_quotient_X7_unitsAt : GoodIn wsX7_quotient (va_wsS RX7 71 yX7_unitsAt wsX7_unitsAt) := goodIn_app (goodIn_of _ (by decide +kernel)) ggX7_quotient_X7_unitsAt
set_option maxRecDepth 20000 in
theorem ggX7_quotient_X1_assign : GoodIn wsX7_quotient wsX1_assign := goodIn_r _ [55, 56, 57, 100, 101] (by decide +kernel) (by decide +kernel)
set_option maxRecDepth 20000 in
theorem gX7_quotient_X1_assign : GoodIn wsX7_quotient (wsV RX7 207 RX1 yX1_assign wsX1_assign) := goodIn_app (goodIn_of _ (by decide +kernel)) ggX7_quotient_X1_assign
set_option maxRecDepth 20000 in
theorem ggX7_quotient_X7_isQuotientSure : GoodIn wsX7_quotient wsX7_isQuotientSure := goodIn_r _ [61, 5, 62, 7, 63, 64, 65, 54, 66, 56, 57, 67, 12, 68, 69, 70, 71, 72, 78, 79, 80, 81, 82, 83, 84, 85, 100, 101] (by decide +kernel) (by decide +kernel)
set_option maxRecDepth 20000 in
theorem gX7_quotient_X7_isQuotientSure : GoodIn wsX7_quotient (wsV RX7 208 RX7 yX7_isQuotientSure wsX7_isQuotientSure) := goodIn_app (goodIn_of _ (by decide +kernel)) ggX7_quotient_X7_isQuotientSure
set_option maxRecDepth 20000 in
theorem ggX7_quotient_X1_turnOver : GoodIn wsX7_quotient wsX1_turnOver := goodIn_r _ [76, 56, 57, 77, 64, 65, 54, 66, 67, 12, 68, 69, 70, 71, 72, 100, 101] (by decide +kernel) (by decide +kernel)
set_option maxRecDepth 20000 in
theorem gX7_quotient_X1_turnOver : GoodIn wsX7_quotient (wsV RX7 212 RX1 yX1_turnOver wsX1_turnOver) := goodIn_app (goodIn_of _ (by decide +kernel)) ggX7_quotient_X1_turnOver
set_option maxRecDepth 20000 in
theorem ggX7_quotient_X1_whole : GoodIn wsX7_quotient wsX1_whole := goodIn_r _ [66, 56, 57, 67, 12, 68, 69, 70, 71, 72, 100, 101] (by decide +kernel) (by decide +kernel)
set_option maxRecDepth 20000 in
theorem gX7_quotient_X1_whole : GoodIn wsX7_quotient (wsV RX7 217 RX1 yX1_whole wsX1_whole) := goodIn_app (goodIn_of _ (by decide +kernel)) ggX7_quotient_X1_whole
theorem dX7_quotient_0 : decode cX7_quotient 0 = .ok (.aload_n 0, 1) := by decide +kernel
theorem dX7_quotient_1 : decode cX7_quotient 1 = .ok (.iload_n 1, 1) := by decide +kernel
theorem dX7_quotient_2 : decode cX7_quotient 2 = .ok (.iload_n 2, 1) := by decide +kernel
theorem dX7_quotient_3 : decode cX7_quotient 3 = .ok (.invokevirtual 159, 3) := by decide +kernel
theorem dX7_quotient_6 : decode cX7_quotient 6 = .ok (.iload_n 3, 1) := by decide +kernel
