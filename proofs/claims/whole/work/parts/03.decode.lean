theorem dX1_init_0 : decode cX1_init 0 = .ok (.aload_n 0, 1) := by decide +kernel
theorem dX1_init_1 : decode cX1_init 1 = .ok (.invokespecial 1, 3) := by decide +kernel
theorem dX1_init_4 : decode cX1_init 4 = .ok (.return_, 1) := by decide +kernel
theorem dX1_assign_0 : decode cX1_assign 0 = .ok (.aload_n 0, 1) := by decide +kernel
theorem dX1_assign_1 : decode cX1_assign 1 = .ok (.lload_n 1, 1) := by decide +kernel
theorem dX1_assign_2 : decode cX1_assign 2 = .ok (.putfield 7, 3) := by decide +kernel
theorem dX1_assign_5 : decode cX1_assign 5 = .ok (.aload_n 0, 1) := by decide +kernel
theorem dX1_assign_6 : decode cX1_assign 6 = .ok (.lload_n 3, 1) := by decide +kernel
theorem dX1_assign_7 : decode cX1_assign 7 = .ok (.putfield 13, 3) := by decide +kernel
theorem dX1_assign_10 : decode cX1_assign 10 = .ok (.return_, 1) := by decide +kernel
set_option maxRecDepth 20000 in
theorem ggX1_whole_X7_cut : GoodIn wsX1_whole wsX7_cut := goodIn_r _ [5, 6, 7, 8, 9] (by decide +kernel) (by decide +kernel)
set_option maxRecDepth 20000 in
theorem gX1_whole_X7_cut_n16 : GoodIn wsX1_whole (wsX7_cut) := ggX1_whole_X7_cut
theorem dX1_whole_0 : decode cX1_whole 0 = .ok (.aload_n 0, 1) := by decide +kernel
theorem dX1_whole_1 : decode cX1_whole 1 = .ok (.getfield 7, 3) := by decide +kernel
theorem dX1_whole_4 : decode cX1_whole 4 = .ok (.aload_n 0, 1) := by decide +kernel
theorem dX1_whole_5 : decode cX1_whole 5 = .ok (.getfield 13, 3) := by decide +kernel
theorem dX1_whole_8 : decode cX1_whole 8 = .ok (.invokestatic 16, 3) := by decide +kernel
theorem dX1_whole_11 : decode cX1_whole 11 = .ok (.lreturn, 1) := by decide +kernel
set_option maxRecDepth 20000 in
theorem ggX1_turnOver_X1_whole : GoodIn wsX1_turnOver wsX1_whole := goodIn_r _ [7, 1, 2, 8, 9, 10, 11, 12, 13, 14, 15, 16] (by decide +kernel) (by decide +kernel)
set_option maxRecDepth 20000 in
theorem gX1_turnOver_X1_whole : GoodIn wsX1_turnOver (wsV RX1 22 RX1 yX1_whole wsX1_whole) := goodIn_app (goodIn_of _ (by decide +kernel)) ggX1_turnOver_X1_whole
theorem dX1_turnOver_0 : decode cX1_turnOver 0 = .ok (.aload_n 0, 1) := by decide +kernel
theorem dX1_turnOver_1 : decode cX1_turnOver 1 = .ok (.getfield 7, 3) := by decide +kernel
theorem dX1_turnOver_4 : decode cX1_turnOver 4 = .ok (.aload_n 0, 1) := by decide +kernel
theorem dX1_turnOver_5 : decode cX1_turnOver 5 = .ok (.invokevirtual 22, 3) := by decide +kernel
theorem dX1_turnOver_8 : decode cX1_turnOver 8 = .ok (.aload_n 0, 1) := by decide +kernel
theorem dX1_turnOver_9 : decode cX1_turnOver 9 = .ok (.getfield 13, 3) := by decide +kernel
theorem dX1_turnOver_12 : decode cX1_turnOver 12 = .ok (.lmul, 1) := by decide +kernel
theorem dX1_turnOver_13 : decode cX1_turnOver 13 = .ok (.lsub, 1) := by decide +kernel
theorem dX1_turnOver_14 : decode cX1_turnOver 14 = .ok (.lstore_n 1, 1) := by decide +kernel
theorem dX1_turnOver_15 : decode cX1_turnOver 15 = .ok (.aload_n 0, 1) := by decide +kernel
theorem dX1_turnOver_16 : decode cX1_turnOver 16 = .ok (.aload_n 0, 1) := by decide +kernel
theorem dX1_turnOver_17 : decode cX1_turnOver 17 = .ok (.getfield 13, 3) := by decide +kernel
theorem dX1_turnOver_20 : decode cX1_turnOver 20 = .ok (.putfield 7, 3) := by decide +kernel
theorem dX1_turnOver_23 : decode cX1_turnOver 23 = .ok (.aload_n 0, 1) := by decide +kernel
theorem dX1_turnOver_24 : decode cX1_turnOver 24 = .ok (.lload_n 1, 1) := by decide +kernel
theorem dX1_turnOver_25 : decode cX1_turnOver 25 = .ok (.putfield 13, 3) := by decide +kernel
theorem dX1_turnOver_28 : decode cX1_turnOver 28 = .ok (.return_, 1) := by decide +kernel
theorem dX2_init_0 : decode cX2_init 0 = .ok (.aload_n 0, 1) := by decide +kernel
theorem dX2_init_1 : decode cX2_init 1 = .ok (.invokespecial 3, 3) := by decide +kernel
theorem dX2_init_4 : decode cX2_init 4 = .ok (.return_, 1) := by decide +kernel
theorem dX2_clear_0 : decode cX2_clear 0 = .ok (.aload_n 0, 1) := by decide +kernel
theorem dX2_clear_1 : decode cX2_clear 1 = .ok (.iconst 0, 1) := by decide +kernel
theorem dX2_clear_2 : decode cX2_clear 2 = .ok (.putfield 9, 3) := by decide +kernel
theorem dX2_clear_5 : decode cX2_clear 5 = .ok (.aload_n 0, 1) := by decide +kernel
theorem dX2_clear_6 : decode cX2_clear 6 = .ok (.lconst 0, 1) := by decide +kernel
theorem dX2_clear_7 : decode cX2_clear 7 = .ok (.putfield 15, 3) := by decide +kernel
theorem dX2_clear_10 : decode cX2_clear 10 = .ok (.aload_n 0, 1) := by decide +kernel
theorem dX2_clear_11 : decode cX2_clear 11 = .ok (.lconst 0, 1) := by decide +kernel
theorem dX2_clear_12 : decode cX2_clear 12 = .ok (.putfield 19, 3) := by decide +kernel
theorem dX2_clear_15 : decode cX2_clear 15 = .ok (.return_, 1) := by decide +kernel
theorem dX2_assign_0 : decode cX2_assign 0 = .ok (.aload_n 0, 1) := by decide +kernel
theorem dX2_assign_1 : decode cX2_assign 1 = .ok (.iconst 1, 1) := by decide +kernel
theorem dX2_assign_2 : decode cX2_assign 2 = .ok (.putfield 9, 3) := by decide +kernel
theorem dX2_assign_5 : decode cX2_assign 5 = .ok (.aload_n 0, 1) := by decide +kernel
theorem dX2_assign_6 : decode cX2_assign 6 = .ok (.lload_n 1, 1) := by decide +kernel
theorem dX2_assign_7 : decode cX2_assign 7 = .ok (.putfield 15, 3) := by decide +kernel
theorem dX2_assign_10 : decode cX2_assign 10 = .ok (.aload_n 0, 1) := by decide +kernel
theorem dX2_assign_11 : decode cX2_assign 11 = .ok (.lload_n 3, 1) := by decide +kernel
theorem dX2_assign_12 : decode cX2_assign 12 = .ok (.putfield 19, 3) := by decide +kernel
theorem dX2_assign_15 : decode cX2_assign 15 = .ok (.return_, 1) := by decide +kernel
set_option maxRecDepth 20000 in
theorem ggX2_dropBeyondReach_X7_unitsAt : GoodIn wsX2_dropBeyondReach wsX7_unitsAt := goodIn_r _ [6] (by decide +kernel) (by decide +kernel)
set_option maxRecDepth 20000 in
theorem gX2_dropBeyondReach_X7_unitsAt_n24 : GoodIn wsX2_dropBeyondReach (wsX7_unitsAt) := ggX2_dropBeyondReach_X7_unitsAt
set_option maxRecDepth 20000 in
theorem ggX2_dropBeyondReach_X2_clear : GoodIn wsX2_dropBeyondReach wsX2_clear := goodIn_r _ [11, 12, 2, 3, 13, 14, 15] (by decide +kernel) (by decide +kernel)
set_option maxRecDepth 20000 in
theorem gX2_dropBeyondReach_X2_clear : GoodIn wsX2_dropBeyondReach (wsV RX2 28 RX2 yX2_clear wsX2_clear) := goodIn_app (goodIn_of _ (by decide +kernel)) ggX2_dropBeyondReach_X2_clear
theorem dX2_dropBeyondReach_0 : decode cX2_dropBeyondReach 0 = .ok (.ldc2_w 22, 3) := by decide +kernel
theorem dX2_dropBeyondReach_3 : decode cX2_dropBeyondReach 3 = .ok (.iload_n 1, 1) := by decide +kernel
theorem dX2_dropBeyondReach_4 : decode cX2_dropBeyondReach 4 = .ok (.invokestatic 24, 3) := by decide +kernel
theorem dX2_dropBeyondReach_7 : decode cX2_dropBeyondReach 7 = .ok (.lmul, 1) := by decide +kernel
theorem dX2_dropBeyondReach_8 : decode cX2_dropBeyondReach 8 = .ok (.lstore_n 2, 1) := by decide +kernel
theorem dX2_dropBeyondReach_9 : decode cX2_dropBeyondReach 9 = .ok (.aload_n 0, 1) := by decide +kernel
theorem dX2_dropBeyondReach_10 : decode cX2_dropBeyondReach 10 = .ok (.getfield 15, 3) := by decide +kernel
theorem dX2_dropBeyondReach_13 : decode cX2_dropBeyondReach 13 = .ok (.lload_n 2, 1) := by decide +kernel
theorem dX2_dropBeyondReach_14 : decode cX2_dropBeyondReach 14 = .ok (.lneg, 1) := by decide +kernel
theorem dX2_dropBeyondReach_15 : decode cX2_dropBeyondReach 15 = .ok (.lcmp, 1) := by decide +kernel
theorem dX2_dropBeyondReach_16 : decode cX2_dropBeyondReach 16 = .ok (.ifCond .lt 12, 3) := by decide +kernel
theorem dX2_dropBeyondReach_19 : decode cX2_dropBeyondReach 19 = .ok (.aload_n 0, 1) := by decide +kernel
theorem dX2_dropBeyondReach_20 : decode cX2_dropBeyondReach 20 = .ok (.getfield 19, 3) := by decide +kernel
theorem dX2_dropBeyondReach_23 : decode cX2_dropBeyondReach 23 = .ok (.lload_n 2, 1) := by decide +kernel
theorem dX2_dropBeyondReach_24 : decode cX2_dropBeyondReach 24 = .ok (.lcmp, 1) := by decide +kernel
theorem dX2_dropBeyondReach_25 : decode cX2_dropBeyondReach 25 = .ok (.ifCond .le 7, 3) := by decide +kernel
theorem dX2_dropBeyondReach_28 : decode cX2_dropBeyondReach 28 = .ok (.aload_n 0, 1) := by decide +kernel
theorem dX2_dropBeyondReach_29 : decode cX2_dropBeyondReach 29 = .ok (.invokevirtual 28, 3) := by decide +kernel
theorem dX2_dropBeyondReach_32 : decode cX2_dropBeyondReach 32 = .ok (.return_, 1) := by decide +kernel
set_option maxRecDepth 20000 in
theorem ggX2_narrow_X2_assign : GoodIn wsX2_narrow wsX2_assign := goodIn_r _ [16, 1, 2, 3, 17, 18, 19] (by decide +kernel) (by decide +kernel)
set_option maxRecDepth 20000 in
theorem gX2_narrow_X2_assign : GoodIn wsX2_narrow (wsV RX2 31 RX2 yX2_assign wsX2_assign) := goodIn_app (goodIn_of _ (by decide +kernel)) ggX2_narrow_X2_assign
theorem dX2_narrow_0 : decode cX2_narrow 0 = .ok (.aload_n 0, 1) := by decide +kernel
theorem dX2_narrow_1 : decode cX2_narrow 1 = .ok (.getfield 9, 3) := by decide +kernel
theorem dX2_narrow_4 : decode cX2_narrow 4 = .ok (.ifCond .ne 23, 3) := by decide +kernel
theorem dX2_narrow_7 : decode cX2_narrow 7 = .ok (.aload_n 1, 1) := by decide +kernel
theorem dX2_narrow_8 : decode cX2_narrow 8 = .ok (.getfield 9, 3) := by decide +kernel
theorem dX2_narrow_11 : decode cX2_narrow 11 = .ok (.ifCond .eq 15, 3) := by decide +kernel
theorem dX2_narrow_14 : decode cX2_narrow 14 = .ok (.aload_n 0, 1) := by decide +kernel
theorem dX2_narrow_15 : decode cX2_narrow 15 = .ok (.aload_n 1, 1) := by decide +kernel
theorem dX2_narrow_16 : decode cX2_narrow 16 = .ok (.getfield 15, 3) := by decide +kernel
theorem dX2_narrow_19 : decode cX2_narrow 19 = .ok (.aload_n 1, 1) := by decide +kernel
theorem dX2_narrow_20 : decode cX2_narrow 20 = .ok (.getfield 19, 3) := by decide +kernel
theorem dX2_narrow_23 : decode cX2_narrow 23 = .ok (.invokevirtual 31, 3) := by decide +kernel
theorem dX2_narrow_26 : decode cX2_narrow 26 = .ok (.return_, 1) := by decide +kernel
theorem dX2_narrow_27 : decode cX2_narrow 27 = .ok (.aload_n 0, 1) := by decide +kernel
theorem dX2_narrow_28 : decode cX2_narrow 28 = .ok (.ldc2_w 35, 3) := by decide +kernel
theorem dX2_narrow_31 : decode cX2_narrow 31 = .ok (.aload_n 0, 1) := by decide +kernel
theorem dX2_narrow_32 : decode cX2_narrow 32 = .ok (.getfield 15, 3) := by decide +kernel
theorem dX2_narrow_35 : decode cX2_narrow 35 = .ok (.lmul, 1) := by decide +kernel
theorem dX2_narrow_36 : decode cX2_narrow 36 = .ok (.ldc2_w 35, 3) := by decide +kernel
theorem dX2_narrow_39 : decode cX2_narrow 39 = .ok (.aload_n 0, 1) := by decide +kernel
theorem dX2_narrow_40 : decode cX2_narrow 40 = .ok (.getfield 19, 3) := by decide +kernel
theorem dX2_narrow_43 : decode cX2_narrow 43 = .ok (.lmul, 1) := by decide +kernel
theorem dX2_narrow_44 : decode cX2_narrow 44 = .ok (.invokevirtual 31, 3) := by decide +kernel
theorem dX2_narrow_47 : decode cX2_narrow 47 = .ok (.aload_n 1, 1) := by decide +kernel
theorem dX2_narrow_48 : decode cX2_narrow 48 = .ok (.getfield 9, 3) := by decide +kernel
theorem dX2_narrow_51 : decode cX2_narrow 51 = .ok (.ifCond .eq 29, 3) := by decide +kernel
theorem dX2_narrow_54 : decode cX2_narrow 54 = .ok (.aload_n 0, 1) := by decide +kernel
theorem dX2_narrow_55 : decode cX2_narrow 55 = .ok (.aload_n 0, 1) := by decide +kernel
theorem dX2_narrow_56 : decode cX2_narrow 56 = .ok (.getfield 15, 3) := by decide +kernel
theorem dX2_narrow_59 : decode cX2_narrow 59 = .ok (.aload_n 1, 1) := by decide +kernel
theorem dX2_narrow_60 : decode cX2_narrow 60 = .ok (.getfield 15, 3) := by decide +kernel
theorem dX2_narrow_63 : decode cX2_narrow 63 = .ok (.invokestatic 37, 3) := by decide +kernel
theorem dX2_narrow_66 : decode cX2_narrow 66 = .ok (.aload_n 0, 1) := by decide +kernel
theorem dX2_narrow_67 : decode cX2_narrow 67 = .ok (.getfield 19, 3) := by decide +kernel
theorem dX2_narrow_70 : decode cX2_narrow 70 = .ok (.aload_n 1, 1) := by decide +kernel
theorem dX2_narrow_71 : decode cX2_narrow 71 = .ok (.getfield 19, 3) := by decide +kernel
theorem dX2_narrow_74 : decode cX2_narrow 74 = .ok (.invokestatic 43, 3) := by decide +kernel
theorem dX2_narrow_77 : decode cX2_narrow 77 = .ok (.invokevirtual 31, 3) := by decide +kernel
theorem dX2_narrow_80 : decode cX2_narrow 80 = .ok (.return_, 1) := by decide +kernel
set_option maxRecDepth 20000 in
theorem ggX2_multiply_X7_unitsAt : GoodIn wsX2_multiply wsX7_unitsAt := goodIn_r _ [12] (by decide +kernel) (by decide +kernel)
set_option maxRecDepth 20000 in
theorem gX2_multiply_X7_unitsAt_n24 : GoodIn wsX2_multiply (wsX7_unitsAt) := ggX2_multiply_X7_unitsAt
set_option maxRecDepth 20000 in
theorem ggX2_multiply_X7_cut : GoodIn wsX2_multiply wsX7_cut := goodIn_r _ [14, 15, 16, 17, 18] (by decide +kernel) (by decide +kernel)
set_option maxRecDepth 20000 in
theorem gX2_multiply_X7_cut_n46 : GoodIn wsX2_multiply (wsX7_cut) := ggX2_multiply_X7_cut
set_option maxRecDepth 20000 in
theorem ggX2_multiply_X7_fill : GoodIn wsX2_multiply wsX7_fill := goodIn_r _ [20, 15, 16, 17, 18] (by decide +kernel) (by decide +kernel)
set_option maxRecDepth 20000 in
theorem gX2_multiply_X7_fill_n49 : GoodIn wsX2_multiply (wsX7_fill) := ggX2_multiply_X7_fill
set_option maxRecDepth 20000 in
theorem ggX2_multiply_X2_assign : GoodIn wsX2_multiply wsX2_assign := goodIn_r _ [25, 26, 1, 2, 27, 28, 29] (by decide +kernel) (by decide +kernel)
set_option maxRecDepth 20000 in
theorem gX2_multiply_X2_assign : GoodIn wsX2_multiply (wsV RX2 31 RX2 yX2_assign wsX2_assign) := goodIn_app (goodIn_of _ (by decide +kernel)) ggX2_multiply_X2_assign
theorem dX2_multiply_0 : decode cX2_multiply 0 = .ok (.aload_n 1, 1) := by decide +kernel
theorem dX2_multiply_1 : decode cX2_multiply 1 = .ok (.getfield 15, 3) := by decide +kernel
theorem dX2_multiply_4 : decode cX2_multiply 4 = .ok (.aload_n 2, 1) := by decide +kernel
theorem dX2_multiply_5 : decode cX2_multiply 5 = .ok (.getfield 15, 3) := by decide +kernel
theorem dX2_multiply_8 : decode cX2_multiply 8 = .ok (.lmul, 1) := by decide +kernel
theorem dX2_multiply_9 : decode cX2_multiply 9 = .ok (.lstore 4, 2) := by decide +kernel
theorem dX2_multiply_11 : decode cX2_multiply 11 = .ok (.aload_n 1, 1) := by decide +kernel
theorem dX2_multiply_12 : decode cX2_multiply 12 = .ok (.getfield 15, 3) := by decide +kernel
theorem dX2_multiply_15 : decode cX2_multiply 15 = .ok (.aload_n 2, 1) := by decide +kernel
theorem dX2_multiply_16 : decode cX2_multiply 16 = .ok (.getfield 19, 3) := by decide +kernel
theorem dX2_multiply_19 : decode cX2_multiply 19 = .ok (.lmul, 1) := by decide +kernel
theorem dX2_multiply_20 : decode cX2_multiply 20 = .ok (.lstore 6, 2) := by decide +kernel
theorem dX2_multiply_22 : decode cX2_multiply 22 = .ok (.aload_n 1, 1) := by decide +kernel
theorem dX2_multiply_23 : decode cX2_multiply 23 = .ok (.getfield 19, 3) := by decide +kernel
theorem dX2_multiply_26 : decode cX2_multiply 26 = .ok (.aload_n 2, 1) := by decide +kernel
theorem dX2_multiply_27 : decode cX2_multiply 27 = .ok (.getfield 15, 3) := by decide +kernel
theorem dX2_multiply_30 : decode cX2_multiply 30 = .ok (.lmul, 1) := by decide +kernel
theorem dX2_multiply_31 : decode cX2_multiply 31 = .ok (.lstore 8, 2) := by decide +kernel
theorem dX2_multiply_33 : decode cX2_multiply 33 = .ok (.aload_n 1, 1) := by decide +kernel
theorem dX2_multiply_34 : decode cX2_multiply 34 = .ok (.getfield 19, 3) := by decide +kernel
theorem dX2_multiply_37 : decode cX2_multiply 37 = .ok (.aload_n 2, 1) := by decide +kernel
theorem dX2_multiply_38 : decode cX2_multiply 38 = .ok (.getfield 19, 3) := by decide +kernel
theorem dX2_multiply_41 : decode cX2_multiply 41 = .ok (.lmul, 1) := by decide +kernel
theorem dX2_multiply_42 : decode cX2_multiply 42 = .ok (.lstore 10, 2) := by decide +kernel
theorem dX2_multiply_44 : decode cX2_multiply 44 = .ok (.lload 4, 2) := by decide +kernel
theorem dX2_multiply_46 : decode cX2_multiply 46 = .ok (.lload 6, 2) := by decide +kernel
theorem dX2_multiply_48 : decode cX2_multiply 48 = .ok (.invokestatic 43, 3) := by decide +kernel
theorem dX2_multiply_51 : decode cX2_multiply 51 = .ok (.lload 8, 2) := by decide +kernel
theorem dX2_multiply_53 : decode cX2_multiply 53 = .ok (.lload 10, 2) := by decide +kernel
theorem dX2_multiply_55 : decode cX2_multiply 55 = .ok (.invokestatic 43, 3) := by decide +kernel
theorem dX2_multiply_58 : decode cX2_multiply 58 = .ok (.invokestatic 43, 3) := by decide +kernel
theorem dX2_multiply_61 : decode cX2_multiply 61 = .ok (.lstore 12, 2) := by decide +kernel
theorem dX2_multiply_63 : decode cX2_multiply 63 = .ok (.lload 4, 2) := by decide +kernel
theorem dX2_multiply_65 : decode cX2_multiply 65 = .ok (.lload 6, 2) := by decide +kernel
theorem dX2_multiply_67 : decode cX2_multiply 67 = .ok (.invokestatic 37, 3) := by decide +kernel
theorem dX2_multiply_70 : decode cX2_multiply 70 = .ok (.lload 8, 2) := by decide +kernel
theorem dX2_multiply_72 : decode cX2_multiply 72 = .ok (.lload 10, 2) := by decide +kernel
theorem dX2_multiply_74 : decode cX2_multiply 74 = .ok (.invokestatic 37, 3) := by decide +kernel
theorem dX2_multiply_77 : decode cX2_multiply 77 = .ok (.invokestatic 37, 3) := by decide +kernel
theorem dX2_multiply_80 : decode cX2_multiply 80 = .ok (.lstore 14, 2) := by decide +kernel
theorem dX2_multiply_82 : decode cX2_multiply 82 = .ok (.aload_n 0, 1) := by decide +kernel
theorem dX2_multiply_83 : decode cX2_multiply 83 = .ok (.lload 12, 2) := by decide +kernel
theorem dX2_multiply_85 : decode cX2_multiply 85 = .ok (.iload_n 3, 1) := by decide +kernel
theorem dX2_multiply_86 : decode cX2_multiply 86 = .ok (.invokestatic 24, 3) := by decide +kernel
theorem dX2_multiply_89 : decode cX2_multiply 89 = .ok (.invokestatic 46, 3) := by decide +kernel
theorem dX2_multiply_92 : decode cX2_multiply 92 = .ok (.lload 14, 2) := by decide +kernel
theorem dX2_multiply_94 : decode cX2_multiply 94 = .ok (.iload_n 3, 1) := by decide +kernel
theorem dX2_multiply_95 : decode cX2_multiply 95 = .ok (.invokestatic 24, 3) := by decide +kernel
theorem dX2_multiply_98 : decode cX2_multiply 98 = .ok (.invokestatic 49, 3) := by decide +kernel
theorem dX2_multiply_101 : decode cX2_multiply 101 = .ok (.invokevirtual 31, 3) := by decide +kernel
theorem dX2_multiply_104 : decode cX2_multiply 104 = .ok (.return_, 1) := by decide +kernel
set_option maxRecDepth 20000 in
theorem ggX2_invert_X2_clear : GoodIn wsX2_invert wsX2_clear := goodIn_r _ [7, 8, 1, 2, 24, 25, 26] (by decide +kernel) (by decide +kernel)
set_option maxRecDepth 20000 in
theorem gX2_invert_X2_clear : GoodIn wsX2_invert (wsV RX2 28 RX2 yX2_clear wsX2_clear) := goodIn_app (goodIn_of _ (by decide +kernel)) ggX2_invert_X2_clear
set_option maxRecDepth 20000 in
theorem ggX2_invert_X7_unitsAt : GoodIn wsX2_invert wsX7_unitsAt := goodIn_r _ [11] (by decide +kernel) (by decide +kernel)
set_option maxRecDepth 20000 in
theorem gX2_invert_X7_unitsAt_n24 : GoodIn wsX2_invert (wsX7_unitsAt) := ggX2_invert_X7_unitsAt
set_option maxRecDepth 20000 in
theorem ggX2_invert_X7_cut : GoodIn wsX2_invert wsX7_cut := goodIn_r _ [13, 14, 15, 16, 17] (by decide +kernel) (by decide +kernel)
set_option maxRecDepth 20000 in
theorem gX2_invert_X7_cut_n46 : GoodIn wsX2_invert (wsX7_cut) := ggX2_invert_X7_cut
set_option maxRecDepth 20000 in
theorem ggX2_invert_X7_fill : GoodIn wsX2_invert wsX7_fill := goodIn_r _ [19, 14, 15, 16, 17] (by decide +kernel) (by decide +kernel)
set_option maxRecDepth 20000 in
theorem gX2_invert_X7_fill_n49 : GoodIn wsX2_invert (wsX7_fill) := ggX2_invert_X7_fill
set_option maxRecDepth 20000 in
theorem ggX2_invert_X2_assign : GoodIn wsX2_invert wsX2_assign := goodIn_r _ [23, 8, 1, 2, 24, 25, 26] (by decide +kernel) (by decide +kernel)
set_option maxRecDepth 20000 in
theorem gX2_invert_X2_assign : GoodIn wsX2_invert (wsV RX2 31 RX2 yX2_assign wsX2_assign) := goodIn_app (goodIn_of _ (by decide +kernel)) ggX2_invert_X2_assign
theorem dX2_invert_0 : decode cX2_invert 0 = .ok (.aload_n 1, 1) := by decide +kernel
theorem dX2_invert_1 : decode cX2_invert 1 = .ok (.getfield 15, 3) := by decide +kernel
theorem dX2_invert_4 : decode cX2_invert 4 = .ok (.lconst 0, 1) := by decide +kernel
theorem dX2_invert_5 : decode cX2_invert 5 = .ok (.lcmp, 1) := by decide +kernel
theorem dX2_invert_6 : decode cX2_invert 6 = .ok (.ifCond .gt 17, 3) := by decide +kernel
theorem dX2_invert_9 : decode cX2_invert 9 = .ok (.aload_n 1, 1) := by decide +kernel
theorem dX2_invert_10 : decode cX2_invert 10 = .ok (.getfield 19, 3) := by decide +kernel
theorem dX2_invert_13 : decode cX2_invert 13 = .ok (.lconst 0, 1) := by decide +kernel
theorem dX2_invert_14 : decode cX2_invert 14 = .ok (.lcmp, 1) := by decide +kernel
theorem dX2_invert_15 : decode cX2_invert 15 = .ok (.ifCond .lt 8, 3) := by decide +kernel
theorem dX2_invert_18 : decode cX2_invert 18 = .ok (.aload_n 0, 1) := by decide +kernel
theorem dX2_invert_19 : decode cX2_invert 19 = .ok (.invokevirtual 28, 3) := by decide +kernel
theorem dX2_invert_22 : decode cX2_invert 22 = .ok (.return_, 1) := by decide +kernel
theorem dX2_invert_23 : decode cX2_invert 23 = .ok (.iconst 2, 1) := by decide +kernel
theorem dX2_invert_24 : decode cX2_invert 24 = .ok (.iload_n 2, 1) := by decide +kernel
theorem dX2_invert_25 : decode cX2_invert 25 = .ok (.imul, 1) := by decide +kernel
theorem dX2_invert_26 : decode cX2_invert 26 = .ok (.invokestatic 24, 3) := by decide +kernel
theorem dX2_invert_29 : decode cX2_invert 29 = .ok (.lstore_n 3, 1) := by decide +kernel
theorem dX2_invert_30 : decode cX2_invert 30 = .ok (.aload_n 0, 1) := by decide +kernel
theorem dX2_invert_31 : decode cX2_invert 31 = .ok (.lload_n 3, 1) := by decide +kernel
theorem dX2_invert_32 : decode cX2_invert 32 = .ok (.aload_n 1, 1) := by decide +kernel
theorem dX2_invert_33 : decode cX2_invert 33 = .ok (.getfield 19, 3) := by decide +kernel
theorem dX2_invert_36 : decode cX2_invert 36 = .ok (.invokestatic 46, 3) := by decide +kernel
theorem dX2_invert_39 : decode cX2_invert 39 = .ok (.lload_n 3, 1) := by decide +kernel
theorem dX2_invert_40 : decode cX2_invert 40 = .ok (.aload_n 1, 1) := by decide +kernel
theorem dX2_invert_41 : decode cX2_invert 41 = .ok (.getfield 15, 3) := by decide +kernel
theorem dX2_invert_44 : decode cX2_invert 44 = .ok (.invokestatic 49, 3) := by decide +kernel
theorem dX2_invert_47 : decode cX2_invert 47 = .ok (.invokevirtual 31, 3) := by decide +kernel
theorem dX2_invert_50 : decode cX2_invert 50 = .ok (.return_, 1) := by decide +kernel
set_option maxRecDepth 20000 in
theorem ggX2_takeRoot_X7_unitsAt : GoodIn wsX2_takeRoot wsX7_unitsAt := goodIn_r _ [9] (by decide +kernel) (by decide +kernel)
set_option maxRecDepth 20000 in
theorem gX2_takeRoot_X7_unitsAt_n24 : GoodIn wsX2_takeRoot (wsX7_unitsAt) := ggX2_takeRoot_X7_unitsAt
set_option maxRecDepth 20000 in
theorem ggX2_takeRoot_X7_cutRoot : GoodIn wsX2_takeRoot wsX7_cutRoot := goodIn_r _ [11] (by decide +kernel) (by decide +kernel)
set_option maxRecDepth 20000 in
theorem gX2_takeRoot_X7_cutRoot_n52 : GoodIn wsX2_takeRoot (wsX7_cutRoot) := ggX2_takeRoot_X7_cutRoot
set_option maxRecDepth 20000 in
theorem ggX2_takeRoot_X7_fillRoot : GoodIn wsX2_takeRoot wsX7_fillRoot := goodIn_r _ [13, 14, 10, 8, 11] (by decide +kernel) (by decide +kernel)
set_option maxRecDepth 20000 in
theorem gX2_takeRoot_X7_fillRoot_n56 : GoodIn wsX2_takeRoot (wsX7_fillRoot) := ggX2_takeRoot_X7_fillRoot
set_option maxRecDepth 20000 in
theorem ggX2_takeRoot_X2_assign : GoodIn wsX2_takeRoot wsX2_assign := goodIn_r _ [19, 20, 1, 6, 21, 22, 23] (by decide +kernel) (by decide +kernel)
set_option maxRecDepth 20000 in
theorem gX2_takeRoot_X2_assign : GoodIn wsX2_takeRoot (wsV RX2 31 RX2 yX2_assign wsX2_assign) := goodIn_app (goodIn_of _ (by decide +kernel)) ggX2_takeRoot_X2_assign
theorem dX2_takeRoot_0 : decode cX2_takeRoot 0 = .ok (.aload_n 1, 1) := by decide +kernel
theorem dX2_takeRoot_1 : decode cX2_takeRoot 1 = .ok (.getfield 15, 3) := by decide +kernel
theorem dX2_takeRoot_4 : decode cX2_takeRoot 4 = .ok (.lconst 0, 1) := by decide +kernel
theorem dX2_takeRoot_5 : decode cX2_takeRoot 5 = .ok (.invokestatic 37, 3) := by decide +kernel
theorem dX2_takeRoot_8 : decode cX2_takeRoot 8 = .ok (.iload_n 2, 1) := by decide +kernel
theorem dX2_takeRoot_9 : decode cX2_takeRoot 9 = .ok (.invokestatic 24, 3) := by decide +kernel
theorem dX2_takeRoot_12 : decode cX2_takeRoot 12 = .ok (.lmul, 1) := by decide +kernel
theorem dX2_takeRoot_13 : decode cX2_takeRoot 13 = .ok (.lstore_n 3, 1) := by decide +kernel
theorem dX2_takeRoot_14 : decode cX2_takeRoot 14 = .ok (.aload_n 1, 1) := by decide +kernel
theorem dX2_takeRoot_15 : decode cX2_takeRoot 15 = .ok (.getfield 19, 3) := by decide +kernel
theorem dX2_takeRoot_18 : decode cX2_takeRoot 18 = .ok (.lconst 0, 1) := by decide +kernel
theorem dX2_takeRoot_19 : decode cX2_takeRoot 19 = .ok (.invokestatic 37, 3) := by decide +kernel
theorem dX2_takeRoot_22 : decode cX2_takeRoot 22 = .ok (.iload_n 2, 1) := by decide +kernel
theorem dX2_takeRoot_23 : decode cX2_takeRoot 23 = .ok (.invokestatic 24, 3) := by decide +kernel
theorem dX2_takeRoot_26 : decode cX2_takeRoot 26 = .ok (.lmul, 1) := by decide +kernel
theorem dX2_takeRoot_27 : decode cX2_takeRoot 27 = .ok (.lstore 5, 2) := by decide +kernel
theorem dX2_takeRoot_29 : decode cX2_takeRoot 29 = .ok (.aload_n 0, 1) := by decide +kernel
theorem dX2_takeRoot_30 : decode cX2_takeRoot 30 = .ok (.lload_n 3, 1) := by decide +kernel
theorem dX2_takeRoot_31 : decode cX2_takeRoot 31 = .ok (.invokestatic 52, 3) := by decide +kernel
theorem dX2_takeRoot_34 : decode cX2_takeRoot 34 = .ok (.lload 5, 2) := by decide +kernel
theorem dX2_takeRoot_36 : decode cX2_takeRoot 36 = .ok (.invokestatic 56, 3) := by decide +kernel
theorem dX2_takeRoot_39 : decode cX2_takeRoot 39 = .ok (.invokevirtual 31, 3) := by decide +kernel
theorem dX2_takeRoot_42 : decode cX2_takeRoot 42 = .ok (.return_, 1) := by decide +kernel
set_option maxRecDepth 20000 in
theorem ggX2_takeExp_X7_unitsAt : GoodIn wsX2_takeExp wsX7_unitsAt := goodIn_r _ [5] (by decide +kernel) (by decide +kernel)
set_option maxRecDepth 20000 in
theorem gX2_takeExp_X7_unitsAt_n24 : GoodIn wsX2_takeExp (wsX7_unitsAt) := ggX2_takeExp_X7_unitsAt
set_option maxRecDepth 20000 in
theorem ggX2_takeExp_X2_clear : GoodIn wsX2_takeExp wsX2_clear := goodIn_r _ [10, 11, 1, 2, 35, 36, 37] (by decide +kernel) (by decide +kernel)
set_option maxRecDepth 20000 in
theorem gX2_takeExp_X2_clear : GoodIn wsX2_takeExp (wsV RX2 28 RX2 yX2_clear wsX2_clear) := goodIn_app (goodIn_of _ (by decide +kernel)) ggX2_takeExp_X2_clear
set_option maxRecDepth 20000 in
theorem ggX2_takeExp_X2_assign : GoodIn wsX2_takeExp wsX2_assign := goodIn_r _ [15, 11, 1, 2, 35, 36, 37] (by decide +kernel) (by decide +kernel)
set_option maxRecDepth 20000 in
theorem gX2_takeExp_X2_assign : GoodIn wsX2_takeExp (wsV RX2 31 RX2 yX2_assign wsX2_assign) := goodIn_app (goodIn_of _ (by decide +kernel)) ggX2_takeExp_X2_assign
set_option maxRecDepth 20000 in
theorem ggX2_takeExp_X2_multiply : GoodIn wsX2_takeExp wsX2_multiply := goodIn_r _ [19, 1, 2, 20, 21, 22, 23, 24, 25, 26, 3, 4, 5, 27, 28, 29, 30, 31, 32, 33, 34, 12, 13, 14, 9, 15, 11, 35, 36, 37] (by decide +kernel) (by decide +kernel)
set_option maxRecDepth 20000 in
theorem gX2_takeExp_X2_multiply : GoodIn wsX2_takeExp (wsV RX2 59 RX2 yX2_multiply wsX2_multiply) := goodIn_app (goodIn_of _ (by decide +kernel)) ggX2_takeExp_X2_multiply
set_option maxRecDepth 20000 in
theorem ggX2_takeExp_X7_cut : GoodIn wsX2_takeExp wsX7_cut := goodIn_r _ [28, 29, 30, 31, 32] (by decide +kernel) (by decide +kernel)
set_option maxRecDepth 20000 in
theorem gX2_takeExp_X7_cut_n46 : GoodIn wsX2_takeExp (wsX7_cut) := ggX2_takeExp_X7_cut
set_option maxRecDepth 20000 in
theorem ggX2_takeExp_X7_fill : GoodIn wsX2_takeExp wsX7_fill := goodIn_r _ [34, 29, 30, 31, 32] (by decide +kernel) (by decide +kernel)
set_option maxRecDepth 20000 in
theorem gX2_takeExp_X7_fill_n49 : GoodIn wsX2_takeExp (wsX7_fill) := ggX2_takeExp_X7_fill
theorem dX2_takeExp_0 : decode cX2_takeExp 0 = .ok (.iload_n 2, 1) := by decide +kernel
theorem dX2_takeExp_1 : decode cX2_takeExp 1 = .ok (.invokestatic 24, 3) := by decide +kernel
theorem dX2_takeExp_4 : decode cX2_takeExp 4 = .ok (.lstore_n 3, 1) := by decide +kernel
theorem dX2_takeExp_5 : decode cX2_takeExp 5 = .ok (.aload_n 1, 1) := by decide +kernel
theorem dX2_takeExp_6 : decode cX2_takeExp 6 = .ok (.getfield 15, 3) := by decide +kernel
theorem dX2_takeExp_9 : decode cX2_takeExp 9 = .ok (.lload_n 3, 1) := by decide +kernel
theorem dX2_takeExp_10 : decode cX2_takeExp 10 = .ok (.lneg, 1) := by decide +kernel
theorem dX2_takeExp_11 : decode cX2_takeExp 11 = .ok (.lcmp, 1) := by decide +kernel
theorem dX2_takeExp_12 : decode cX2_takeExp 12 = .ok (.ifCond .lt 12, 3) := by decide +kernel
theorem dX2_takeExp_15 : decode cX2_takeExp 15 = .ok (.aload_n 1, 1) := by decide +kernel
theorem dX2_takeExp_16 : decode cX2_takeExp 16 = .ok (.getfield 19, 3) := by decide +kernel
theorem dX2_takeExp_19 : decode cX2_takeExp 19 = .ok (.lload_n 3, 1) := by decide +kernel
theorem dX2_takeExp_20 : decode cX2_takeExp 20 = .ok (.lcmp, 1) := by decide +kernel
theorem dX2_takeExp_21 : decode cX2_takeExp 21 = .ok (.ifCond .le 8, 3) := by decide +kernel
theorem dX2_takeExp_24 : decode cX2_takeExp 24 = .ok (.aload_n 0, 1) := by decide +kernel
theorem dX2_takeExp_25 : decode cX2_takeExp 25 = .ok (.invokevirtual 28, 3) := by decide +kernel
theorem dX2_takeExp_28 : decode cX2_takeExp 28 = .ok (.return_, 1) := by decide +kernel
theorem dX2_takeExp_29 : decode cX2_takeExp 29 = .ok (.aload_n 0, 1) := by decide +kernel
theorem dX2_takeExp_30 : decode cX2_takeExp 30 = .ok (.lload_n 3, 1) := by decide +kernel
theorem dX2_takeExp_31 : decode cX2_takeExp 31 = .ok (.lload_n 3, 1) := by decide +kernel
theorem dX2_takeExp_32 : decode cX2_takeExp 32 = .ok (.invokevirtual 31, 3) := by decide +kernel
theorem dX2_takeExp_35 : decode cX2_takeExp 35 = .ok (.bipush 12, 2) := by decide +kernel
theorem dX2_takeExp_37 : decode cX2_takeExp 37 = .ok (.istore 5, 2) := by decide +kernel
theorem dX2_takeExp_39 : decode cX2_takeExp 39 = .ok (.iload 5, 2) := by decide +kernel
theorem dX2_takeExp_41 : decode cX2_takeExp 41 = .ok (.iconst 1, 1) := by decide +kernel
theorem dX2_takeExp_42 : decode cX2_takeExp 42 = .ok (.if_icmp .lt 44, 3) := by decide +kernel
theorem dX2_takeExp_45 : decode cX2_takeExp 45 = .ok (.aload_n 0, 1) := by decide +kernel
theorem dX2_takeExp_46 : decode cX2_takeExp 46 = .ok (.aload_n 1, 1) := by decide +kernel
theorem dX2_takeExp_47 : decode cX2_takeExp 47 = .ok (.aload_n 0, 1) := by decide +kernel
theorem dX2_takeExp_48 : decode cX2_takeExp 48 = .ok (.iload_n 2, 1) := by decide +kernel
theorem dX2_takeExp_49 : decode cX2_takeExp 49 = .ok (.invokevirtual 59, 3) := by decide +kernel
theorem dX2_takeExp_52 : decode cX2_takeExp 52 = .ok (.aload_n 0, 1) := by decide +kernel
theorem dX2_takeExp_53 : decode cX2_takeExp 53 = .ok (.aload_n 0, 1) := by decide +kernel
theorem dX2_takeExp_54 : decode cX2_takeExp 54 = .ok (.getfield 15, 3) := by decide +kernel
theorem dX2_takeExp_57 : decode cX2_takeExp 57 = .ok (.iload 5, 2) := by decide +kernel
theorem dX2_takeExp_59 : decode cX2_takeExp 59 = .ok (.i2l, 1) := by decide +kernel
theorem dX2_takeExp_60 : decode cX2_takeExp 60 = .ok (.invokestatic 46, 3) := by decide +kernel
theorem dX2_takeExp_63 : decode cX2_takeExp 63 = .ok (.lload_n 3, 1) := by decide +kernel
theorem dX2_takeExp_64 : decode cX2_takeExp 64 = .ok (.ladd, 1) := by decide +kernel
theorem dX2_takeExp_65 : decode cX2_takeExp 65 = .ok (.aload_n 0, 1) := by decide +kernel
theorem dX2_takeExp_66 : decode cX2_takeExp 66 = .ok (.getfield 19, 3) := by decide +kernel
theorem dX2_takeExp_69 : decode cX2_takeExp 69 = .ok (.iload 5, 2) := by decide +kernel
theorem dX2_takeExp_71 : decode cX2_takeExp 71 = .ok (.i2l, 1) := by decide +kernel
theorem dX2_takeExp_72 : decode cX2_takeExp 72 = .ok (.invokestatic 49, 3) := by decide +kernel
theorem dX2_takeExp_75 : decode cX2_takeExp 75 = .ok (.lload_n 3, 1) := by decide +kernel
theorem dX2_takeExp_76 : decode cX2_takeExp 76 = .ok (.ladd, 1) := by decide +kernel
theorem dX2_takeExp_77 : decode cX2_takeExp 77 = .ok (.invokevirtual 31, 3) := by decide +kernel
theorem dX2_takeExp_80 : decode cX2_takeExp 80 = .ok (.iinc 5 (-1), 3) := by decide +kernel
theorem dX2_takeExp_83 : decode cX2_takeExp 83 = .ok (.goto (-44), 3) := by decide +kernel
theorem dX2_takeExp_86 : decode cX2_takeExp 86 = .ok (.aload_n 0, 1) := by decide +kernel
theorem dX2_takeExp_87 : decode cX2_takeExp 87 = .ok (.aload_n 0, 1) := by decide +kernel
theorem dX2_takeExp_88 : decode cX2_takeExp 88 = .ok (.getfield 15, 3) := by decide +kernel
theorem dX2_takeExp_91 : decode cX2_takeExp 91 = .ok (.lconst 1, 1) := by decide +kernel
theorem dX2_takeExp_92 : decode cX2_takeExp 92 = .ok (.lsub, 1) := by decide +kernel
theorem dX2_takeExp_93 : decode cX2_takeExp 93 = .ok (.aload_n 0, 1) := by decide +kernel
theorem dX2_takeExp_94 : decode cX2_takeExp 94 = .ok (.getfield 19, 3) := by decide +kernel
theorem dX2_takeExp_97 : decode cX2_takeExp 97 = .ok (.lconst 1, 1) := by decide +kernel
theorem dX2_takeExp_98 : decode cX2_takeExp 98 = .ok (.ladd, 1) := by decide +kernel
theorem dX2_takeExp_99 : decode cX2_takeExp 99 = .ok (.invokevirtual 31, 3) := by decide +kernel
theorem dX2_takeExp_102 : decode cX2_takeExp 102 = .ok (.return_, 1) := by decide +kernel
theorem dX4_init_0 : decode cX4_init 0 = .ok (.aload_n 0, 1) := by decide +kernel
theorem dX4_init_1 : decode cX4_init 1 = .ok (.invokespecial 1, 3) := by decide +kernel
theorem dX4_init_4 : decode cX4_init 4 = .ok (.aload_n 0, 1) := by decide +kernel
theorem dX4_init_5 : decode cX4_init 5 = .ok (.iload_n 1, 1) := by decide +kernel
theorem dX4_init_6 : decode cX4_init 6 = .ok (.i2l, 1) := by decide +kernel
theorem dX4_init_7 : decode cX4_init 7 = .ok (.putfield 7, 3) := by decide +kernel
theorem dX4_init_10 : decode cX4_init 10 = .ok (.aload_n 0, 1) := by decide +kernel
theorem dX4_init_11 : decode cX4_init 11 = .ok (.iload_n 2, 1) := by decide +kernel
theorem dX4_init_12 : decode cX4_init 12 = .ok (.i2l, 1) := by decide +kernel
theorem dX4_init_13 : decode cX4_init 13 = .ok (.putfield 13, 3) := by decide +kernel
theorem dX4_init_16 : decode cX4_init 16 = .ok (.aload_n 0, 1) := by decide +kernel
theorem dX4_init_17 : decode cX4_init 17 = .ok (.iload_n 3, 1) := by decide +kernel
theorem dX4_init_18 : decode cX4_init 18 = .ok (.i2l, 1) := by decide +kernel
theorem dX4_init_19 : decode cX4_init 19 = .ok (.putfield 16, 3) := by decide +kernel
theorem dX4_init_22 : decode cX4_init 22 = .ok (.aload_n 0, 1) := by decide +kernel
theorem dX4_init_23 : decode cX4_init 23 = .ok (.iload 4, 2) := by decide +kernel
theorem dX4_init_25 : decode cX4_init 25 = .ok (.i2l, 1) := by decide +kernel
theorem dX4_init_26 : decode cX4_init 26 = .ok (.putfield 19, 3) := by decide +kernel
theorem dX4_init_29 : decode cX4_init 29 = .ok (.return_, 1) := by decide +kernel
set_option maxRecDepth 20000 in
theorem ggX4_signAt_X7_unitsAt : GoodIn wsX4_signAt wsX7_unitsAt := goodIn_r _ [7] (by decide +kernel) (by decide +kernel)
set_option maxRecDepth 20000 in
theorem gX4_signAt_X7_unitsAt_n22 : GoodIn wsX4_signAt (wsX7_unitsAt) := ggX4_signAt_X7_unitsAt
set_option maxRecDepth 20000 in
theorem ggX4_signAt_J13_signum_95d88 : GoodIn wsX4_signAt wsJ13_signum_95d88 := goodIn_r _ [11] (by decide +kernel) (by decide +kernel)
set_option maxRecDepth 20000 in
theorem gX4_signAt_J13_signum_95d88 : GoodIn wsX4_signAt (va_wsS RX4 28 yJ13_signum_95d88 wsJ13_signum_95d88) := goodIn_app (goodIn_of _ (by decide +kernel)) ggX4_signAt_J13_signum_95d88
theorem dX4_signAt_0 : decode cX4_signAt 0 = .ok (.iload_n 3, 1) := by decide +kernel
theorem dX4_signAt_1 : decode cX4_signAt 1 = .ok (.invokestatic 22, 3) := by decide +kernel
theorem dX4_signAt_4 : decode cX4_signAt 4 = .ok (.lstore 4, 2) := by decide +kernel
theorem dX4_signAt_6 : decode cX4_signAt 6 = .ok (.aload_n 0, 1) := by decide +kernel
theorem dX4_signAt_7 : decode cX4_signAt 7 = .ok (.getfield 19, 3) := by decide +kernel
theorem dX4_signAt_10 : decode cX4_signAt 10 = .ok (.lload_n 1, 1) := by decide +kernel
theorem dX4_signAt_11 : decode cX4_signAt 11 = .ok (.lmul, 1) := by decide +kernel
theorem dX4_signAt_12 : decode cX4_signAt 12 = .ok (.aload_n 0, 1) := by decide +kernel
theorem dX4_signAt_13 : decode cX4_signAt 13 = .ok (.getfield 16, 3) := by decide +kernel
theorem dX4_signAt_16 : decode cX4_signAt 16 = .ok (.lload 4, 2) := by decide +kernel
theorem dX4_signAt_18 : decode cX4_signAt 18 = .ok (.lmul, 1) := by decide +kernel
theorem dX4_signAt_19 : decode cX4_signAt 19 = .ok (.ladd, 1) := by decide +kernel
theorem dX4_signAt_20 : decode cX4_signAt 20 = .ok (.lload_n 1, 1) := by decide +kernel
theorem dX4_signAt_21 : decode cX4_signAt 21 = .ok (.lmul, 1) := by decide +kernel
theorem dX4_signAt_22 : decode cX4_signAt 22 = .ok (.aload_n 0, 1) := by decide +kernel
theorem dX4_signAt_23 : decode cX4_signAt 23 = .ok (.getfield 13, 3) := by decide +kernel
theorem dX4_signAt_26 : decode cX4_signAt 26 = .ok (.lload 4, 2) := by decide +kernel
theorem dX4_signAt_28 : decode cX4_signAt 28 = .ok (.lmul, 1) := by decide +kernel
theorem dX4_signAt_29 : decode cX4_signAt 29 = .ok (.lload 4, 2) := by decide +kernel
theorem dX4_signAt_31 : decode cX4_signAt 31 = .ok (.lmul, 1) := by decide +kernel
theorem dX4_signAt_32 : decode cX4_signAt 32 = .ok (.ladd, 1) := by decide +kernel
theorem dX4_signAt_33 : decode cX4_signAt 33 = .ok (.lload_n 1, 1) := by decide +kernel
theorem dX4_signAt_34 : decode cX4_signAt 34 = .ok (.lmul, 1) := by decide +kernel
theorem dX4_signAt_35 : decode cX4_signAt 35 = .ok (.aload_n 0, 1) := by decide +kernel
theorem dX4_signAt_36 : decode cX4_signAt 36 = .ok (.getfield 7, 3) := by decide +kernel
theorem dX4_signAt_39 : decode cX4_signAt 39 = .ok (.lload 4, 2) := by decide +kernel
theorem dX4_signAt_41 : decode cX4_signAt 41 = .ok (.lmul, 1) := by decide +kernel
theorem dX4_signAt_42 : decode cX4_signAt 42 = .ok (.lload 4, 2) := by decide +kernel
theorem dX4_signAt_44 : decode cX4_signAt 44 = .ok (.lmul, 1) := by decide +kernel
theorem dX4_signAt_45 : decode cX4_signAt 45 = .ok (.lload 4, 2) := by decide +kernel
theorem dX4_signAt_47 : decode cX4_signAt 47 = .ok (.lmul, 1) := by decide +kernel
theorem dX4_signAt_48 : decode cX4_signAt 48 = .ok (.ladd, 1) := by decide +kernel
theorem dX4_signAt_49 : decode cX4_signAt 49 = .ok (.lstore 6, 2) := by decide +kernel
theorem dX4_signAt_51 : decode cX4_signAt 51 = .ok (.lload 6, 2) := by decide +kernel
theorem dX4_signAt_53 : decode cX4_signAt 53 = .ok (.invokestatic 28, 3) := by decide +kernel
theorem dX4_signAt_56 : decode cX4_signAt 56 = .ok (.ireturn, 1) := by decide +kernel
set_option maxRecDepth 20000 in
theorem ggX5_init_X6_init : GoodIn wsX5_init wsX6_init := goodIn_r _ [17, 18, 2, 3, 19, 20, 21, 22, 23, 32, 33, 34] (by decide +kernel) (by decide +kernel)
set_option maxRecDepth 20000 in
theorem gX5_init_X6_init : GoodIn wsX5_init (wsX6_init) := ggX5_init_X6_init
theorem dX5_init_0 : decode cX5_init 0 = .ok (.aload_n 0, 1) := by decide +kernel
theorem dX5_init_1 : decode cX5_init 1 = .ok (.invokespecial 3, 3) := by decide +kernel
theorem dX5_init_4 : decode cX5_init 4 = .ok (.aload_n 0, 1) := by decide +kernel
theorem dX5_init_5 : decode cX5_init 5 = .ok (.aload_n 1, 1) := by decide +kernel
theorem dX5_init_6 : decode cX5_init 6 = .ok (.putfield 9, 3) := by decide +kernel
theorem dX5_init_9 : decode cX5_init 9 = .ok (.aload_n 0, 1) := by decide +kernel
theorem dX5_init_10 : decode cX5_init 10 = .ok (.iload_n 2, 1) := by decide +kernel
theorem dX5_init_11 : decode cX5_init 11 = .ok (.putfield 15, 3) := by decide +kernel
theorem dX5_init_14 : decode cX5_init 14 = .ok (.aload_n 0, 1) := by decide +kernel
theorem dX5_init_15 : decode cX5_init 15 = .ok (.iload_n 3, 1) := by decide +kernel
theorem dX5_init_16 : decode cX5_init 16 = .ok (.putfield 19, 3) := by decide +kernel
theorem dX5_init_19 : decode cX5_init 19 = .ok (.aload_n 0, 1) := by decide +kernel
theorem dX5_init_20 : decode cX5_init 20 = .ok (.lload 4, 2) := by decide +kernel
theorem dX5_init_22 : decode cX5_init 22 = .ok (.putfield 22, 3) := by decide +kernel
theorem dX5_init_25 : decode cX5_init 25 = .ok (.aload_n 0, 1) := by decide +kernel
theorem dX5_init_26 : decode cX5_init 26 = .ok (.new 26, 3) := by decide +kernel
theorem dX5_init_29 : decode cX5_init 29 = .ok (.dup, 1) := by decide +kernel
theorem dX5_init_30 : decode cX5_init 30 = .ok (.bipush 25, 2) := by decide +kernel
theorem dX5_init_32 : decode cX5_init 32 = .ok (.invokespecial 28, 3) := by decide +kernel
theorem dX5_init_35 : decode cX5_init 35 = .ok (.putfield 31, 3) := by decide +kernel
theorem dX5_init_38 : decode cX5_init 38 = .ok (.aload_n 0, 1) := by decide +kernel
theorem dX5_init_39 : decode cX5_init 39 = .ok (.new 26, 3) := by decide +kernel
theorem dX5_init_42 : decode cX5_init 42 = .ok (.dup, 1) := by decide +kernel
theorem dX5_init_43 : decode cX5_init 43 = .ok (.bipush 25, 2) := by decide +kernel
theorem dX5_init_45 : decode cX5_init 45 = .ok (.invokespecial 28, 3) := by decide +kernel
theorem dX5_init_48 : decode cX5_init 48 = .ok (.putfield 35, 3) := by decide +kernel
theorem dX5_init_51 : decode cX5_init 51 = .ok (.aload_n 0, 1) := by decide +kernel
theorem dX5_init_52 : decode cX5_init 52 = .ok (.iconst 0, 1) := by decide +kernel
theorem dX5_init_53 : decode cX5_init 53 = .ok (.putfield 38, 3) := by decide +kernel
theorem dX5_init_56 : decode cX5_init 56 = .ok (.aload_n 0, 1) := by decide +kernel
theorem dX5_init_57 : decode cX5_init 57 = .ok (.lconst 0, 1) := by decide +kernel
theorem dX5_init_58 : decode cX5_init 58 = .ok (.putfield 41, 3) := by decide +kernel
theorem dX5_init_61 : decode cX5_init 61 = .ok (.return_, 1) := by decide +kernel
theorem dX5_isMadeOf_0 : decode cX5_isMadeOf 0 = .ok (.aload_n 0, 1) := by decide +kernel
theorem dX5_isMadeOf_1 : decode cX5_isMadeOf 1 = .ok (.getfield 22, 3) := by decide +kernel
theorem dX5_isMadeOf_4 : decode cX5_isMadeOf 4 = .ok (.iload_n 1, 1) := by decide +kernel
theorem dX5_isMadeOf_5 : decode cX5_isMadeOf 5 = .ok (.lshr, 1) := by decide +kernel
theorem dX5_isMadeOf_6 : decode cX5_isMadeOf 6 = .ok (.lconst 1, 1) := by decide +kernel
theorem dX5_isMadeOf_7 : decode cX5_isMadeOf 7 = .ok (.land, 1) := by decide +kernel
theorem dX5_isMadeOf_8 : decode cX5_isMadeOf 8 = .ok (.lconst 1, 1) := by decide +kernel
theorem dX5_isMadeOf_9 : decode cX5_isMadeOf 9 = .ok (.lcmp, 1) := by decide +kernel
theorem dX5_isMadeOf_10 : decode cX5_isMadeOf 10 = .ok (.ifCond .ne 7, 3) := by decide +kernel
theorem dX5_isMadeOf_13 : decode cX5_isMadeOf 13 = .ok (.iconst 1, 1) := by decide +kernel
theorem dX5_isMadeOf_14 : decode cX5_isMadeOf 14 = .ok (.goto 4, 3) := by decide +kernel
theorem dX5_isMadeOf_17 : decode cX5_isMadeOf 17 = .ok (.iconst 0, 1) := by decide +kernel
theorem dX5_isMadeOf_18 : decode cX5_isMadeOf 18 = .ok (.ireturn, 1) := by decide +kernel
theorem dX6_init_0 : decode cX6_init 0 = .ok (.aload_n 0, 1) := by decide +kernel
theorem dX6_init_1 : decode cX6_init 1 = .ok (.invokespecial 1, 3) := by decide +kernel
theorem dX6_init_4 : decode cX6_init 4 = .ok (.iload_n 1, 1) := by decide +kernel
theorem dX6_init_5 : decode cX6_init 5 = .ok (.ifCond .ge 7, 3) := by decide +kernel
theorem dX6_init_8 : decode cX6_init 8 = .ok (.iconst 0, 1) := by decide +kernel
theorem dX6_init_9 : decode cX6_init 9 = .ok (.goto 4, 3) := by decide +kernel
theorem dX6_init_12 : decode cX6_init 12 = .ok (.iload_n 1, 1) := by decide +kernel
theorem dX6_init_13 : decode cX6_init 13 = .ok (.istore_n 2, 1) := by decide +kernel
theorem dX6_init_14 : decode cX6_init 14 = .ok (.aload_n 0, 1) := by decide +kernel
theorem dX6_init_15 : decode cX6_init 15 = .ok (.iload_n 2, 1) := by decide +kernel
theorem dX6_init_16 : decode cX6_init 16 = .ok (.newarray .boolean, 2) := by decide +kernel
theorem dX6_init_18 : decode cX6_init 18 = .ok (.putfield 7, 3) := by decide +kernel
theorem dX6_init_21 : decode cX6_init 21 = .ok (.aload_n 0, 1) := by decide +kernel
theorem dX6_init_22 : decode cX6_init 22 = .ok (.iload_n 2, 1) := by decide +kernel
theorem dX6_init_23 : decode cX6_init 23 = .ok (.newarray .long, 2) := by decide +kernel
theorem dX6_init_25 : decode cX6_init 25 = .ok (.putfield 13, 3) := by decide +kernel
theorem dX6_init_28 : decode cX6_init 28 = .ok (.aload_n 0, 1) := by decide +kernel
theorem dX6_init_29 : decode cX6_init 29 = .ok (.iload_n 2, 1) := by decide +kernel
theorem dX6_init_30 : decode cX6_init 30 = .ok (.newarray .long, 2) := by decide +kernel
theorem dX6_init_32 : decode cX6_init 32 = .ok (.putfield 17, 3) := by decide +kernel
theorem dX6_init_35 : decode cX6_init 35 = .ok (.return_, 1) := by decide +kernel
theorem dX6_put_0 : decode cX6_put 0 = .ok (.iload_n 1, 1) := by decide +kernel
theorem dX6_put_1 : decode cX6_put 1 = .ok (.ifCond .lt 42, 3) := by decide +kernel
theorem dX6_put_4 : decode cX6_put 4 = .ok (.iload_n 1, 1) := by decide +kernel
theorem dX6_put_5 : decode cX6_put 5 = .ok (.aload_n 0, 1) := by decide +kernel
theorem dX6_put_6 : decode cX6_put 6 = .ok (.getfield 13, 3) := by decide +kernel
theorem dX6_put_9 : decode cX6_put 9 = .ok (.arraylength, 1) := by decide +kernel
theorem dX6_put_10 : decode cX6_put 10 = .ok (.if_icmp .ge 33, 3) := by decide +kernel
theorem dX6_put_13 : decode cX6_put 13 = .ok (.aload_n 0, 1) := by decide +kernel
theorem dX6_put_14 : decode cX6_put 14 = .ok (.getfield 7, 3) := by decide +kernel
theorem dX6_put_17 : decode cX6_put 17 = .ok (.iload_n 1, 1) := by decide +kernel
theorem dX6_put_18 : decode cX6_put 18 = .ok (.aload_n 2, 1) := by decide +kernel
theorem dX6_put_19 : decode cX6_put 19 = .ok (.getfield 20, 3) := by decide +kernel
theorem dX6_put_22 : decode cX6_put 22 = .ok (.bastore, 1) := by decide +kernel
theorem dX6_put_23 : decode cX6_put 23 = .ok (.aload_n 0, 1) := by decide +kernel
theorem dX6_put_24 : decode cX6_put 24 = .ok (.getfield 13, 3) := by decide +kernel
theorem dX6_put_27 : decode cX6_put 27 = .ok (.iload_n 1, 1) := by decide +kernel
theorem dX6_put_28 : decode cX6_put 28 = .ok (.aload_n 2, 1) := by decide +kernel
theorem dX6_put_29 : decode cX6_put 29 = .ok (.getfield 25, 3) := by decide +kernel
theorem dX6_put_32 : decode cX6_put 32 = .ok (.lastore, 1) := by decide +kernel
theorem dX6_put_33 : decode cX6_put 33 = .ok (.aload_n 0, 1) := by decide +kernel
theorem dX6_put_34 : decode cX6_put 34 = .ok (.getfield 17, 3) := by decide +kernel
theorem dX6_put_37 : decode cX6_put 37 = .ok (.iload_n 1, 1) := by decide +kernel
theorem dX6_put_38 : decode cX6_put 38 = .ok (.aload_n 2, 1) := by decide +kernel
theorem dX6_put_39 : decode cX6_put 39 = .ok (.getfield 28, 3) := by decide +kernel
theorem dX6_put_42 : decode cX6_put 42 = .ok (.lastore, 1) := by decide +kernel
theorem dX6_put_43 : decode cX6_put 43 = .ok (.return_, 1) := by decide +kernel
set_option maxRecDepth 20000 in
theorem ggX6_load_X2_clear : GoodIn wsX6_load wsX2_clear := goodIn_r _ [8, 9, 10, 11, 19, 20, 21] (by decide +kernel) (by decide +kernel)
set_option maxRecDepth 20000 in
theorem gX6_load_X2_clear : GoodIn wsX6_load (wsV RX6 30 RX2 yX2_clear wsX2_clear) := goodIn_app (goodIn_of _ (by decide +kernel)) ggX6_load_X2_clear
set_option maxRecDepth 20000 in
theorem ggX6_load_X2_assign : GoodIn wsX6_load wsX2_assign := goodIn_r _ [15, 9, 10, 11, 19, 20, 21] (by decide +kernel) (by decide +kernel)
set_option maxRecDepth 20000 in
theorem gX6_load_X2_assign : GoodIn wsX6_load (wsV RX6 33 RX2 yX2_assign wsX2_assign) := goodIn_app (goodIn_of _ (by decide +kernel)) ggX6_load_X2_assign
theorem dX6_load_0 : decode cX6_load 0 = .ok (.aload_n 2, 1) := by decide +kernel
theorem dX6_load_1 : decode cX6_load 1 = .ok (.invokevirtual 30, 3) := by decide +kernel
theorem dX6_load_4 : decode cX6_load 4 = .ok (.iload_n 1, 1) := by decide +kernel
theorem dX6_load_5 : decode cX6_load 5 = .ok (.ifCond .lt 37, 3) := by decide +kernel
theorem dX6_load_8 : decode cX6_load 8 = .ok (.iload_n 1, 1) := by decide +kernel
theorem dX6_load_9 : decode cX6_load 9 = .ok (.aload_n 0, 1) := by decide +kernel
theorem dX6_load_10 : decode cX6_load 10 = .ok (.getfield 13, 3) := by decide +kernel
theorem dX6_load_13 : decode cX6_load 13 = .ok (.arraylength, 1) := by decide +kernel
theorem dX6_load_14 : decode cX6_load 14 = .ok (.if_icmp .ge 28, 3) := by decide +kernel
theorem dX6_load_17 : decode cX6_load 17 = .ok (.aload_n 0, 1) := by decide +kernel
theorem dX6_load_18 : decode cX6_load 18 = .ok (.getfield 7, 3) := by decide +kernel
theorem dX6_load_21 : decode cX6_load 21 = .ok (.iload_n 1, 1) := by decide +kernel
theorem dX6_load_22 : decode cX6_load 22 = .ok (.baload, 1) := by decide +kernel
theorem dX6_load_23 : decode cX6_load 23 = .ok (.ifCond .eq 19, 3) := by decide +kernel
theorem dX6_load_26 : decode cX6_load 26 = .ok (.aload_n 2, 1) := by decide +kernel
theorem dX6_load_27 : decode cX6_load 27 = .ok (.aload_n 0, 1) := by decide +kernel
theorem dX6_load_28 : decode cX6_load 28 = .ok (.getfield 13, 3) := by decide +kernel
theorem dX6_load_31 : decode cX6_load 31 = .ok (.iload_n 1, 1) := by decide +kernel
theorem dX6_load_32 : decode cX6_load 32 = .ok (.laload, 1) := by decide +kernel
theorem dX6_load_33 : decode cX6_load 33 = .ok (.aload_n 0, 1) := by decide +kernel
theorem dX6_load_34 : decode cX6_load 34 = .ok (.getfield 17, 3) := by decide +kernel
theorem dX6_load_37 : decode cX6_load 37 = .ok (.iload_n 1, 1) := by decide +kernel
theorem dX6_load_38 : decode cX6_load 38 = .ok (.laload, 1) := by decide +kernel
theorem dX6_load_39 : decode cX6_load 39 = .ok (.invokevirtual 33, 3) := by decide +kernel
theorem dX6_load_42 : decode cX6_load 42 = .ok (.return_, 1) := by decide +kernel
set_option maxRecDepth 20000 in
theorem ggX7_init_X2_init : GoodIn wsX7_init wsX2_init := goodIn_r _ [23, 24, 2, 3] (by decide +kernel) (by decide +kernel)
set_option maxRecDepth 20000 in
theorem gX7_init_X2_init_n21 : GoodIn wsX7_init (wsX2_init) := ggX7_init_X2_init
set_option maxRecDepth 20000 in
theorem ggX7_init_X6_init : GoodIn wsX7_init wsX6_init := goodIn_r _ [27, 28, 2, 3, 29, 30, 31, 32, 33, 48, 49, 50] (by decide +kernel) (by decide +kernel)
set_option maxRecDepth 20000 in
theorem gX7_init_X6_init : GoodIn wsX7_init (wsX6_init) := ggX7_init_X6_init
set_option maxRecDepth 20000 in
theorem ggX7_init_X1_init : GoodIn wsX7_init wsX1_init := goodIn_r _ [35, 36, 2, 3] (by decide +kernel) (by decide +kernel)
set_option maxRecDepth 20000 in
theorem gX7_init_X1_init_n43 : GoodIn wsX7_init (wsX1_init) := ggX7_init_X1_init
theorem dX7_init_0 : decode cX7_init 0 = .ok (.aload_n 0, 1) := by decide +kernel
theorem dX7_init_1 : decode cX7_init 1 = .ok (.invokespecial 1, 3) := by decide +kernel
theorem dX7_init_4 : decode cX7_init 4 = .ok (.aload_n 0, 1) := by decide +kernel
theorem dX7_init_5 : decode cX7_init 5 = .ok (.bipush 40, 2) := by decide +kernel
theorem dX7_init_7 : decode cX7_init 7 = .ok (.anewarray 9, 3) := by decide +kernel
theorem dX7_init_10 : decode cX7_init 10 = .ok (.putfield 11, 3) := by decide +kernel
theorem dX7_init_13 : decode cX7_init 13 = .ok (.aload_n 0, 1) := by decide +kernel
theorem dX7_init_14 : decode cX7_init 14 = .ok (.iconst 0, 1) := by decide +kernel
theorem dX7_init_15 : decode cX7_init 15 = .ok (.putfield 15, 3) := by decide +kernel
theorem dX7_init_18 : decode cX7_init 18 = .ok (.aload_n 0, 1) := by decide +kernel
theorem dX7_init_19 : decode cX7_init 19 = .ok (.new 19, 3) := by decide +kernel
theorem dX7_init_22 : decode cX7_init 22 = .ok (.dup, 1) := by decide +kernel
theorem dX7_init_23 : decode cX7_init 23 = .ok (.invokespecial 21, 3) := by decide +kernel
theorem dX7_init_26 : decode cX7_init 26 = .ok (.putfield 22, 3) := by decide +kernel
theorem dX7_init_29 : decode cX7_init 29 = .ok (.aload_n 0, 1) := by decide +kernel
theorem dX7_init_30 : decode cX7_init 30 = .ok (.new 19, 3) := by decide +kernel
theorem dX7_init_33 : decode cX7_init 33 = .ok (.dup, 1) := by decide +kernel
theorem dX7_init_34 : decode cX7_init 34 = .ok (.invokespecial 21, 3) := by decide +kernel
theorem dX7_init_37 : decode cX7_init 37 = .ok (.putfield 26, 3) := by decide +kernel
theorem dX7_init_40 : decode cX7_init 40 = .ok (.aload_n 0, 1) := by decide +kernel
theorem dX7_init_41 : decode cX7_init 41 = .ok (.new 19, 3) := by decide +kernel
theorem dX7_init_44 : decode cX7_init 44 = .ok (.dup, 1) := by decide +kernel
theorem dX7_init_45 : decode cX7_init 45 = .ok (.invokespecial 21, 3) := by decide +kernel
theorem dX7_init_48 : decode cX7_init 48 = .ok (.putfield 29, 3) := by decide +kernel
theorem dX7_init_51 : decode cX7_init 51 = .ok (.aload_n 0, 1) := by decide +kernel
theorem dX7_init_52 : decode cX7_init 52 = .ok (.new 32, 3) := by decide +kernel
theorem dX7_init_55 : decode cX7_init 55 = .ok (.dup, 1) := by decide +kernel
theorem dX7_init_56 : decode cX7_init 56 = .ok (.bipush 40, 2) := by decide +kernel
theorem dX7_init_58 : decode cX7_init 58 = .ok (.invokespecial 34, 3) := by decide +kernel
theorem dX7_init_61 : decode cX7_init 61 = .ok (.putfield 37, 3) := by decide +kernel
theorem dX7_init_64 : decode cX7_init 64 = .ok (.aload_n 0, 1) := by decide +kernel
theorem dX7_init_65 : decode cX7_init 65 = .ok (.new 41, 3) := by decide +kernel
theorem dX7_init_68 : decode cX7_init 68 = .ok (.dup, 1) := by decide +kernel
theorem dX7_init_69 : decode cX7_init 69 = .ok (.invokespecial 43, 3) := by decide +kernel
theorem dX7_init_72 : decode cX7_init 72 = .ok (.putfield 44, 3) := by decide +kernel
theorem dX7_init_75 : decode cX7_init 75 = .ok (.aload_n 0, 1) := by decide +kernel
theorem dX7_init_76 : decode cX7_init 76 = .ok (.new 41, 3) := by decide +kernel
theorem dX7_init_79 : decode cX7_init 79 = .ok (.dup, 1) := by decide +kernel
theorem dX7_init_80 : decode cX7_init 80 = .ok (.invokespecial 43, 3) := by decide +kernel
theorem dX7_init_83 : decode cX7_init 83 = .ok (.putfield 48, 3) := by decide +kernel
theorem dX7_init_86 : decode cX7_init 86 = .ok (.return_, 1) := by decide +kernel
set_option maxRecDepth 20000 in
theorem ggX7_ratio_X7_requireWithin : GoodIn wsX7_ratio wsX7_requireWithin := goodIn_ca (goodIn_r _ [10, 11, 12] (by decide +kernel) (by decide +kernel)) (goodIn_sub (fun _ h => List.mem_cons_of_mem _ (List.mem_append_left _ (List.mem_append_right _ h))) (by decide +kernel))
set_option maxRecDepth 20000 in
theorem gX7_ratio_X7_requireWithin : GoodIn wsX7_ratio (va_wsS RX7 51 yX7_requireWithin wsX7_requireWithin) := goodIn_app (goodIn_of _ (by decide +kernel)) ggX7_ratio_X7_requireWithin
set_option maxRecDepth 20000 in
theorem ggX7_ratio_X7_requireRoom : GoodIn wsX7_ratio wsX7_requireRoom := goodIn_ca (goodIn_r _ [16, 17, 18, 19, 20, 122, 123, 124, 125, 126, 127, 128, 129] (by decide +kernel) (by decide +kernel)) (goodIn_sub (fun _ h => List.mem_cons_of_mem _ (List.mem_append_right _ h)) (by decide +kernel))
set_option maxRecDepth 20000 in
theorem gX7_ratio_X7_requireRoom : GoodIn wsX7_ratio (wsV RX7 55 RX7 yX7_requireRoom wsX7_requireRoom) := goodIn_app (goodIn_of _ (by decide +kernel)) ggX7_ratio_X7_requireRoom
set_option maxRecDepth 20000 in
theorem ggX7_ratio_X7_ownBit : GoodIn wsX7_ratio wsX7_ownBit := goodIn_r _ [24, 19, 122, 123, 124, 125, 126, 127, 128, 129] (by decide +kernel) (by decide +kernel)
set_option maxRecDepth 20000 in
theorem gX7_ratio_X7_ownBit : GoodIn wsX7_ratio (wsV RX7 64 RX7 yX7_ownBit wsX7_ownBit) := goodIn_app (goodIn_of _ (by decide +kernel)) ggX7_ratio_X7_ownBit
set_option maxRecDepth 20000 in
theorem ggX7_ratio_X5_init : GoodIn wsX7_ratio wsX5_init := goodIn_r _ [27, 28, 29, 30, 31, 32, 33, 34, 35, 36, 37, 38, 39, 40, 41, 42, 43, 44, 45, 46, 47, 48, 49, 50, 114, 115, 116, 117, 118, 119, 120, 121, 130, 131, 132] (by decide +kernel) (by decide +kernel)
set_option maxRecDepth 20000 in
theorem gX7_ratio_X5_init : GoodIn wsX7_ratio (wsX5_init) := ggX7_ratio_X5_init
set_option maxRecDepth 20000 in
theorem ggX7_ratio_X7_unitsAt : GoodIn wsX7_ratio wsX7_unitsAt := goodIn_r _ [53] (by decide +kernel) (by decide +kernel)
set_option maxRecDepth 20000 in
theorem gX7_ratio_X7_unitsAt : GoodIn wsX7_ratio (va_wsS RX7 71 yX7_unitsAt wsX7_unitsAt) := goodIn_app (goodIn_of _ (by decide +kernel)) ggX7_ratio_X7_unitsAt
set_option maxRecDepth 20000 in
theorem ggX7_ratio_X7_cut : GoodIn wsX7_ratio wsX7_cut := goodIn_r _ [56, 57, 58, 59, 60] (by decide +kernel) (by decide +kernel)
set_option maxRecDepth 20000 in
theorem gX7_ratio_X7_cut : GoodIn wsX7_ratio (va_wsS RX7 75 yX7_cut wsX7_cut) := goodIn_app (goodIn_of _ (by decide +kernel)) ggX7_ratio_X7_cut
set_option maxRecDepth 20000 in
theorem ggX7_ratio_X7_fill : GoodIn wsX7_ratio wsX7_fill := goodIn_r _ [63, 57, 58, 59, 60] (by decide +kernel) (by decide +kernel)
set_option maxRecDepth 20000 in
theorem gX7_ratio_X7_fill : GoodIn wsX7_ratio (va_wsS RX7 79 yX7_fill wsX7_fill) := goodIn_app (goodIn_of _ (by decide +kernel)) ggX7_ratio_X7_fill
set_option maxRecDepth 20000 in
theorem ggX7_ratio_X2_assign : GoodIn wsX7_ratio wsX2_assign := goodIn_r _ [68, 69, 70, 71, 133, 134, 135] (by decide +kernel) (by decide +kernel)
set_option maxRecDepth 20000 in
theorem gX7_ratio_X2_assign : GoodIn wsX7_ratio (wsV RX7 82 RX2 yX2_assign wsX2_assign) := goodIn_app (goodIn_of _ (by decide +kernel)) ggX7_ratio_X2_assign
set_option maxRecDepth 20000 in
theorem ggX7_ratio_X2_dropBeyondReach : GoodIn wsX7_ratio wsX2_dropBeyondReach := goodIn_r _ [75, 76, 70, 71, 52, 9, 53, 77, 78, 79, 67, 80, 69, 133, 134, 135] (by decide +kernel) (by decide +kernel)
set_option maxRecDepth 20000 in
theorem gX7_ratio_X2_dropBeyondReach : GoodIn wsX7_ratio (wsV RX7 86 RX2 yX2_dropBeyondReach wsX2_dropBeyondReach) := goodIn_app (goodIn_of _ (by decide +kernel)) ggX7_ratio_X2_dropBeyondReach
set_option maxRecDepth 20000 in
theorem ggX7_ratio_X6_put : GoodIn wsX7_ratio wsX6_put := goodIn_r _ [84, 49, 47, 85, 86, 50, 87, 130, 131, 132, 133, 134, 135] (by decide +kernel) (by decide +kernel)
set_option maxRecDepth 20000 in
theorem gX7_ratio_X6_put : GoodIn wsX7_ratio (wsV RX7 92 RX6 yX6_put wsX6_put) := goodIn_app (goodIn_of _ (by decide +kernel)) ggX7_ratio_X6_put
set_option maxRecDepth 20000 in
theorem ggX7_ratio_X7_add : GoodIn wsX7_ratio wsX7_add := goodIn_r _ [91, 5, 6, 92, 93, 19, 20, 94, 78, 79, 67, 80, 69, 70, 71, 95, 96, 97, 37, 98, 49, 47, 50, 99, 100, 65, 66, 68, 101, 102, 103, 104, 105, 106, 107, 108, 109, 110, 111, 112, 113, 81, 82, 83, 84, 85, 86, 87, 122, 123, 124, 125, 126, 127, 128, 129, 114, 115, 116, 117, 118, 119, 120, 121, 133, 134, 135, 130, 131, 132] (by decide +kernel) (by decide +kernel)
set_option maxRecDepth 20000 in
theorem gX7_ratio_X7_add : GoodIn wsX7_ratio (wsV RX7 96 RX7 yX7_add wsX7_add) := goodIn_app (goodIn_of _ (by decide +kernel)) ggX7_ratio_X7_add
theorem dX7_ratio_0 : decode cX7_ratio 0 = .ok (.iload_n 1, 1) := by decide +kernel
theorem dX7_ratio_1 : decode cX7_ratio 1 = .ok (.sipush (-1000), 3) := by decide +kernel
theorem dX7_ratio_4 : decode cX7_ratio 4 = .ok (.sipush 1000, 3) := by decide +kernel
theorem dX7_ratio_7 : decode cX7_ratio 7 = .ok (.invokestatic 51, 3) := by decide +kernel
theorem dX7_ratio_10 : decode cX7_ratio 10 = .ok (.iload_n 2, 1) := by decide +kernel
theorem dX7_ratio_11 : decode cX7_ratio 11 = .ok (.iconst 1, 1) := by decide +kernel
theorem dX7_ratio_12 : decode cX7_ratio 12 = .ok (.sipush 1000, 3) := by decide +kernel
theorem dX7_ratio_15 : decode cX7_ratio 15 = .ok (.invokestatic 51, 3) := by decide +kernel
theorem dX7_ratio_18 : decode cX7_ratio 18 = .ok (.aload_n 0, 1) := by decide +kernel
theorem dX7_ratio_19 : decode cX7_ratio 19 = .ok (.invokevirtual 55, 3) := by decide +kernel
theorem dX7_ratio_22 : decode cX7_ratio 22 = .ok (.new 9, 3) := by decide +kernel
theorem dX7_ratio_25 : decode cX7_ratio 25 = .ok (.dup, 1) := by decide +kernel
theorem dX7_ratio_26 : decode cX7_ratio 26 = .ok (.getstatic 58, 3) := by decide +kernel
theorem dX7_ratio_29 : decode cX7_ratio 29 = .ok (.iconst (-1), 1) := by decide +kernel
theorem dX7_ratio_30 : decode cX7_ratio 30 = .ok (.iconst (-1), 1) := by decide +kernel
theorem dX7_ratio_31 : decode cX7_ratio 31 = .ok (.aload_n 0, 1) := by decide +kernel
theorem dX7_ratio_32 : decode cX7_ratio 32 = .ok (.invokevirtual 64, 3) := by decide +kernel
theorem dX7_ratio_35 : decode cX7_ratio 35 = .ok (.invokespecial 68, 3) := by decide +kernel
theorem dX7_ratio_38 : decode cX7_ratio 38 = .ok (.astore_n 3, 1) := by decide +kernel
theorem dX7_ratio_39 : decode cX7_ratio 39 = .ok (.iconst 0, 1) := by decide +kernel
theorem dX7_ratio_40 : decode cX7_ratio 40 = .ok (.istore 4, 2) := by decide +kernel
theorem dX7_ratio_42 : decode cX7_ratio 42 = .ok (.iload 4, 2) := by decide +kernel
theorem dX7_ratio_44 : decode cX7_ratio 44 = .ok (.bipush 24, 2) := by decide +kernel
theorem dX7_ratio_46 : decode cX7_ratio 46 = .ok (.if_icmp .gt 62, 3) := by decide +kernel
theorem dX7_ratio_49 : decode cX7_ratio 49 = .ok (.iload_n 1, 1) := by decide +kernel
theorem dX7_ratio_50 : decode cX7_ratio 50 = .ok (.i2l, 1) := by decide +kernel
theorem dX7_ratio_51 : decode cX7_ratio 51 = .ok (.iload 4, 2) := by decide +kernel
theorem dX7_ratio_53 : decode cX7_ratio 53 = .ok (.invokestatic 71, 3) := by decide +kernel
theorem dX7_ratio_56 : decode cX7_ratio 56 = .ok (.lmul, 1) := by decide +kernel
theorem dX7_ratio_57 : decode cX7_ratio 57 = .ok (.lstore 5, 2) := by decide +kernel
theorem dX7_ratio_59 : decode cX7_ratio 59 = .ok (.aload_n 0, 1) := by decide +kernel
theorem dX7_ratio_60 : decode cX7_ratio 60 = .ok (.getfield 22, 3) := by decide +kernel
theorem dX7_ratio_63 : decode cX7_ratio 63 = .ok (.lload 5, 2) := by decide +kernel
theorem dX7_ratio_65 : decode cX7_ratio 65 = .ok (.iload_n 2, 1) := by decide +kernel
theorem dX7_ratio_66 : decode cX7_ratio 66 = .ok (.i2l, 1) := by decide +kernel
theorem dX7_ratio_67 : decode cX7_ratio 67 = .ok (.invokestatic 75, 3) := by decide +kernel
theorem dX7_ratio_70 : decode cX7_ratio 70 = .ok (.lload 5, 2) := by decide +kernel
theorem dX7_ratio_72 : decode cX7_ratio 72 = .ok (.iload_n 2, 1) := by decide +kernel
theorem dX7_ratio_73 : decode cX7_ratio 73 = .ok (.i2l, 1) := by decide +kernel
theorem dX7_ratio_74 : decode cX7_ratio 74 = .ok (.invokestatic 79, 3) := by decide +kernel
theorem dX7_ratio_77 : decode cX7_ratio 77 = .ok (.invokevirtual 82, 3) := by decide +kernel
theorem dX7_ratio_80 : decode cX7_ratio 80 = .ok (.aload_n 0, 1) := by decide +kernel
theorem dX7_ratio_81 : decode cX7_ratio 81 = .ok (.getfield 22, 3) := by decide +kernel
theorem dX7_ratio_84 : decode cX7_ratio 84 = .ok (.iload 4, 2) := by decide +kernel
theorem dX7_ratio_86 : decode cX7_ratio 86 = .ok (.invokevirtual 86, 3) := by decide +kernel
theorem dX7_ratio_89 : decode cX7_ratio 89 = .ok (.aload_n 3, 1) := by decide +kernel
theorem dX7_ratio_90 : decode cX7_ratio 90 = .ok (.getfield 89, 3) := by decide +kernel
theorem dX7_ratio_93 : decode cX7_ratio 93 = .ok (.iload 4, 2) := by decide +kernel
theorem dX7_ratio_95 : decode cX7_ratio 95 = .ok (.aload_n 0, 1) := by decide +kernel
theorem dX7_ratio_96 : decode cX7_ratio 96 = .ok (.getfield 22, 3) := by decide +kernel
theorem dX7_ratio_99 : decode cX7_ratio 99 = .ok (.invokevirtual 92, 3) := by decide +kernel
theorem dX7_ratio_102 : decode cX7_ratio 102 = .ok (.iinc 4 1, 3) := by decide +kernel
theorem dX7_ratio_105 : decode cX7_ratio 105 = .ok (.goto (-63), 3) := by decide +kernel
theorem dX7_ratio_108 : decode cX7_ratio 108 = .ok (.aload_n 0, 1) := by decide +kernel
theorem dX7_ratio_109 : decode cX7_ratio 109 = .ok (.aload_n 3, 1) := by decide +kernel
theorem dX7_ratio_110 : decode cX7_ratio 110 = .ok (.invokevirtual 96, 3) := by decide +kernel
theorem dX7_ratio_113 : decode cX7_ratio 113 = .ok (.ireturn, 1) := by decide +kernel
set_option maxRecDepth 20000 in
theorem ggX7_sum_X7_make : GoodIn wsX7_sum wsX7_make := goodIn_ca (goodIn_ca (goodIn_r _ [6, 7, 8, 9, 10, 11, 12, 13, 14, 15, 16, 17, 5, 18, 19, 20, 21, 22, 23, 24, 25, 26, 27, 28, 29, 30, 31, 32, 33, 34, 35, 36, 37, 38, 39, 40, 41, 42, 43, 44, 45, 46, 47, 48, 49, 50, 51, 52, 53, 54, 55, 56, 57, 58, 59, 60, 61, 62, 63, 64, 65, 66, 67, 68, 69, 70, 71, 72, 73, 74, 75, 76, 77, 78, 79, 80, 81, 82, 83, 84, 85, 86, 87, 88, 89, 90, 91, 92, 93, 94, 95, 96, 97, 98, 99, 100, 101, 102, 103, 104, 105, 106, 107, 108, 109, 110, 111, 112, 113, 114, 115, 116, 117, 118, 119, 120, 121, 122, 123, 124, 125, 126, 127, 128, 129, 130, 131, 132, 133, 134, 135, 136, 137, 138, 139, 140, 141, 142, 143, 144, 145, 146, 147, 148, 149, 150, 151, 152, 153, 154, 155, 156, 157, 158, 159, 160, 161, 162, 163, 164, 165, 166, 167, 168, 169, 170, 171, 172, 173, 174, 175, 176, 177] (by decide +kernel) (by decide +kernel)) (goodIn_sub (fun _ h => List.mem_cons_of_mem _ (List.mem_append_left _ (List.mem_append_right _ h))) (by decide +kernel))) (goodIn_sub (fun _ h => List.mem_cons_of_mem _ (List.mem_append_right _ h)) (by decide +kernel))
set_option maxRecDepth 20000 in
theorem gX7_sum_X7_make : GoodIn wsX7_sum (wsV RX7 103 RX7 yX7_make wsX7_make) := goodIn_app (goodIn_of _ (by decide +kernel)) ggX7_sum_X7_make
theorem dX7_sum_0 : decode cX7_sum 0 = .ok (.aload_n 0, 1) := by decide +kernel
theorem dX7_sum_1 : decode cX7_sum 1 = .ok (.getstatic 100, 3) := by decide +kernel
theorem dX7_sum_4 : decode cX7_sum 4 = .ok (.iload_n 1, 1) := by decide +kernel
theorem dX7_sum_5 : decode cX7_sum 5 = .ok (.iload_n 2, 1) := by decide +kernel
theorem dX7_sum_6 : decode cX7_sum 6 = .ok (.invokevirtual 103, 3) := by decide +kernel
theorem dX7_sum_9 : decode cX7_sum 9 = .ok (.ireturn, 1) := by decide +kernel
set_option maxRecDepth 20000 in
theorem ggX7_difference_X7_make : GoodIn wsX7_difference wsX7_make := goodIn_ca (goodIn_ca (goodIn_r _ [6, 7, 8, 9, 10, 11, 12, 13, 14, 15, 16, 17, 5, 18, 19, 20, 21, 22, 23, 24, 25, 26, 27, 28, 29, 30, 31, 32, 33, 34, 35, 36, 37, 38, 39, 40, 41, 42, 43, 44, 45, 46, 47, 48, 49, 50, 51, 52, 53, 54, 55, 56, 57, 58, 59, 60, 61, 62, 63, 64, 65, 66, 67, 68, 69, 70, 71, 72, 73, 74, 75, 76, 77, 78, 79, 80, 81, 82, 83, 84, 85, 86, 87, 88, 89, 90, 91, 92, 93, 94, 95, 96, 97, 98, 99, 100, 101, 102, 103, 104, 105, 106, 107, 108, 109, 110, 111, 112, 113, 114, 115, 116, 117, 118, 119, 120, 121, 122, 123, 124, 125, 126, 127, 128, 129, 130, 131, 132, 133, 134, 135, 136, 137, 138, 139, 140, 141, 142, 143, 144, 145, 146, 147, 148, 149, 150, 151, 152, 153, 154, 155, 156, 157, 158, 159, 160, 161, 162, 163, 164, 165, 166, 167, 168, 169, 170, 171, 172, 173, 174, 175, 176, 177] (by decide +kernel) (by decide +kernel)) (goodIn_sub (fun _ h => List.mem_cons_of_mem _ (List.mem_append_left _ (List.mem_append_right _ h))) (by decide +kernel))) (goodIn_sub (fun _ h => List.mem_cons_of_mem _ (List.mem_append_right _ h)) (by decide +kernel))
set_option maxRecDepth 20000 in
theorem gX7_difference_X7_make : GoodIn wsX7_difference (wsV RX7 103 RX7 yX7_make wsX7_make) := goodIn_app (goodIn_of _ (by decide +kernel)) ggX7_difference_X7_make
theorem dX7_difference_0 : decode cX7_difference 0 = .ok (.aload_n 0, 1) := by decide +kernel
theorem dX7_difference_1 : decode cX7_difference 1 = .ok (.getstatic 107, 3) := by decide +kernel
theorem dX7_difference_4 : decode cX7_difference 4 = .ok (.iload_n 1, 1) := by decide +kernel
theorem dX7_difference_5 : decode cX7_difference 5 = .ok (.iload_n 2, 1) := by decide +kernel
theorem dX7_difference_6 : decode cX7_difference 6 = .ok (.invokevirtual 103, 3) := by decide +kernel
theorem dX7_difference_9 : decode cX7_difference 9 = .ok (.ireturn, 1) := by decide +kernel
set_option maxRecDepth 20000 in
theorem ggX7_product_X7_make : GoodIn wsX7_product wsX7_make := goodIn_ca (goodIn_ca (goodIn_r _ [6, 7, 8, 9, 10, 11, 12, 13, 14, 15, 16, 17, 5, 18, 19, 20, 21, 22, 23, 24, 25, 26, 27, 28, 29, 30, 31, 32, 33, 34, 35, 36, 37, 38, 39, 40, 41, 42, 43, 44, 45, 46, 47, 48, 49, 50, 51, 52, 53, 54, 55, 56, 57, 58, 59, 60, 61, 62, 63, 64, 65, 66, 67, 68, 69, 70, 71, 72, 73, 74, 75, 76, 77, 78, 79, 80, 81, 82, 83, 84, 85, 86, 87, 88, 89, 90, 91, 92, 93, 94, 95, 96, 97, 98, 99, 100, 101, 102, 103, 104, 105, 106, 107, 108, 109, 110, 111, 112, 113, 114, 115, 116, 117, 118, 119, 120, 121, 122, 123, 124, 125, 126, 127, 128, 129, 130, 131, 132, 133, 134, 135, 136, 137, 138, 139, 140, 141, 142, 143, 144, 145, 146, 147, 148, 149, 150, 151, 152, 153, 154, 155, 156, 157, 158, 159, 160, 161, 162, 163, 164, 165, 166, 167, 168, 169, 170, 171, 172, 173, 174, 175, 176, 177] (by decide +kernel) (by decide +kernel)) (goodIn_sub (fun _ h => List.mem_cons_of_mem _ (List.mem_append_left _ (List.mem_append_right _ h))) (by decide +kernel))) (goodIn_sub (fun _ h => List.mem_cons_of_mem _ (List.mem_append_right _ h)) (by decide +kernel))
set_option maxRecDepth 20000 in
theorem gX7_product_X7_make : GoodIn wsX7_product (wsV RX7 103 RX7 yX7_make wsX7_make) := goodIn_app (goodIn_of _ (by decide +kernel)) ggX7_product_X7_make
theorem dX7_product_0 : decode cX7_product 0 = .ok (.aload_n 0, 1) := by decide +kernel
theorem dX7_product_1 : decode cX7_product 1 = .ok (.getstatic 110, 3) := by decide +kernel
theorem dX7_product_4 : decode cX7_product 4 = .ok (.iload_n 1, 1) := by decide +kernel
theorem dX7_product_5 : decode cX7_product 5 = .ok (.iload_n 2, 1) := by decide +kernel
theorem dX7_product_6 : decode cX7_product 6 = .ok (.invokevirtual 103, 3) := by decide +kernel
theorem dX7_product_9 : decode cX7_product 9 = .ok (.ireturn, 1) := by decide +kernel
set_option maxRecDepth 20000 in
theorem ggX7_greater_X7_make : GoodIn wsX7_greater wsX7_make := goodIn_ca (goodIn_ca (goodIn_r _ [6, 7, 8, 9, 10, 11, 12, 13, 14, 15, 16, 17, 5, 18, 19, 20, 21, 22, 23, 24, 25, 26, 27, 28, 29, 30, 31, 32, 33, 34, 35, 36, 37, 38, 39, 40, 41, 42, 43, 44, 45, 46, 47, 48, 49, 50, 51, 52, 53, 54, 55, 56, 57, 58, 59, 60, 61, 62, 63, 64, 65, 66, 67, 68, 69, 70, 71, 72, 73, 74, 75, 76, 77, 78, 79, 80, 81, 82, 83, 84, 85, 86, 87, 88, 89, 90, 91, 92, 93, 94, 95, 96, 97, 98, 99, 100, 101, 102, 103, 104, 105, 106, 107, 108, 109, 110, 111, 112, 113, 114, 115, 116, 117, 118, 119, 120, 121, 122, 123, 124, 125, 126, 127, 128, 129, 130, 131, 132, 133, 134, 135, 136, 137, 138, 139, 140, 141, 142, 143, 144, 145, 146, 147, 148, 149, 150, 151, 152, 153, 154, 155, 156, 157, 158, 159, 160, 161, 162, 163, 164, 165, 166, 167, 168, 169, 170, 171, 172, 173, 174, 175, 176, 177] (by decide +kernel) (by decide +kernel)) (goodIn_sub (fun _ h => List.mem_cons_of_mem _ (List.mem_append_left _ (List.mem_append_right _ h))) (by decide +kernel))) (goodIn_sub (fun _ h => List.mem_cons_of_mem _ (List.mem_append_right _ h)) (by decide +kernel))
set_option maxRecDepth 20000 in
theorem gX7_greater_X7_make : GoodIn wsX7_greater (wsV RX7 103 RX7 yX7_make wsX7_make) := goodIn_app (goodIn_of _ (by decide +kernel)) ggX7_greater_X7_make
theorem dX7_greater_0 : decode cX7_greater 0 = .ok (.aload_n 0, 1) := by decide +kernel
theorem dX7_greater_1 : decode cX7_greater 1 = .ok (.getstatic 113, 3) := by decide +kernel
theorem dX7_greater_4 : decode cX7_greater 4 = .ok (.iload_n 1, 1) := by decide +kernel
theorem dX7_greater_5 : decode cX7_greater 5 = .ok (.iload_n 2, 1) := by decide +kernel
theorem dX7_greater_6 : decode cX7_greater 6 = .ok (.invokevirtual 103, 3) := by decide +kernel
theorem dX7_greater_9 : decode cX7_greater 9 = .ok (.ireturn, 1) := by decide +kernel
set_option maxRecDepth 20000 in
theorem ggX7_inverse_X7_make : GoodIn wsX7_inverse wsX7_make := goodIn_ca (goodIn_ca (goodIn_r _ [6, 7, 8, 9, 10, 11, 12, 13, 14, 15, 16, 17, 5, 18, 19, 20, 21, 22, 23, 24, 25, 26, 27, 28, 29, 30, 31, 32, 33, 34, 35, 36, 37, 38, 39, 40, 41, 42, 43, 44, 45, 46, 47, 48, 49, 50, 51, 52, 53, 54, 55, 56, 57, 58, 59, 60, 61, 62, 63, 64, 65, 66, 67, 68, 69, 70, 71, 72, 73, 74, 75, 76, 77, 78, 79, 80, 81, 82, 83, 84, 85, 86, 87, 88, 89, 90, 91, 92, 93, 94, 95, 96, 97, 98, 99, 100, 101, 102, 103, 104, 105, 106, 107, 108, 109, 110, 111, 112, 113, 114, 115, 116, 117, 118, 119, 120, 121, 122, 123, 124, 125, 126, 127, 128, 129, 130, 131, 132, 133, 134, 135, 136, 137, 138, 139, 140, 141, 142, 143, 144, 145, 146, 147, 148, 149, 150, 151, 152, 153, 154, 155, 156, 157, 158, 159, 160, 161, 162, 163, 164, 165, 166, 167, 168, 169, 170, 171, 172, 173, 174, 175, 176, 177] (by decide +kernel) (by decide +kernel)) (goodIn_sub (fun _ h => List.mem_cons_of_mem _ (List.mem_append_left _ (List.mem_append_right _ h))) (by decide +kernel))) (goodIn_sub (fun _ h => List.mem_cons_of_mem _ (List.mem_append_right _ h)) (by decide +kernel))
set_option maxRecDepth 20000 in
theorem gX7_inverse_X7_make : GoodIn wsX7_inverse (wsV RX7 103 RX7 yX7_make wsX7_make) := goodIn_app (goodIn_of _ (by decide +kernel)) ggX7_inverse_X7_make
theorem dX7_inverse_0 : decode cX7_inverse 0 = .ok (.aload_n 0, 1) := by decide +kernel
theorem dX7_inverse_1 : decode cX7_inverse 1 = .ok (.getstatic 116, 3) := by decide +kernel
theorem dX7_inverse_4 : decode cX7_inverse 4 = .ok (.iload_n 1, 1) := by decide +kernel
theorem dX7_inverse_5 : decode cX7_inverse 5 = .ok (.iload_n 1, 1) := by decide +kernel
theorem dX7_inverse_6 : decode cX7_inverse 6 = .ok (.invokevirtual 103, 3) := by decide +kernel
theorem dX7_inverse_9 : decode cX7_inverse 9 = .ok (.ireturn, 1) := by decide +kernel
set_option maxRecDepth 20000 in
theorem ggX7_root_X7_make : GoodIn wsX7_root wsX7_make := goodIn_ca (goodIn_ca (goodIn_r _ [6, 7, 8, 9, 10, 11, 12, 13, 14, 15, 16, 17, 5, 18, 19, 20, 21, 22, 23, 24, 25, 26, 27, 28, 29, 30, 31, 32, 33, 34, 35, 36, 37, 38, 39, 40, 41, 42, 43, 44, 45, 46, 47, 48, 49, 50, 51, 52, 53, 54, 55, 56, 57, 58, 59, 60, 61, 62, 63, 64, 65, 66, 67, 68, 69, 70, 71, 72, 73, 74, 75, 76, 77, 78, 79, 80, 81, 82, 83, 84, 85, 86, 87, 88, 89, 90, 91, 92, 93, 94, 95, 96, 97, 98, 99, 100, 101, 102, 103, 104, 105, 106, 107, 108, 109, 110, 111, 112, 113, 114, 115, 116, 117, 118, 119, 120, 121, 122, 123, 124, 125, 126, 127, 128, 129, 130, 131, 132, 133, 134, 135, 136, 137, 138, 139, 140, 141, 142, 143, 144, 145, 146, 147, 148, 149, 150, 151, 152, 153, 154, 155, 156, 157, 158, 159, 160, 161, 162, 163, 164, 165, 166, 167, 168, 169, 170, 171, 172, 173, 174, 175, 176, 177] (by decide +kernel) (by decide +kernel)) (goodIn_sub (fun _ h => List.mem_cons_of_mem _ (List.mem_append_left _ (List.mem_append_right _ h))) (by decide +kernel))) (goodIn_sub (fun _ h => List.mem_cons_of_mem _ (List.mem_append_right _ h)) (by decide +kernel))
set_option maxRecDepth 20000 in
theorem gX7_root_X7_make : GoodIn wsX7_root (wsV RX7 103 RX7 yX7_make wsX7_make) := goodIn_app (goodIn_of _ (by decide +kernel)) ggX7_root_X7_make
theorem dX7_root_0 : decode cX7_root 0 = .ok (.aload_n 0, 1) := by decide +kernel
theorem dX7_root_1 : decode cX7_root 1 = .ok (.getstatic 119, 3) := by decide +kernel
theorem dX7_root_4 : decode cX7_root 4 = .ok (.iload_n 1, 1) := by decide +kernel
theorem dX7_root_5 : decode cX7_root 5 = .ok (.iload_n 1, 1) := by decide +kernel
theorem dX7_root_6 : decode cX7_root 6 = .ok (.invokevirtual 103, 3) := by decide +kernel
theorem dX7_root_9 : decode cX7_root 9 = .ok (.ireturn, 1) := by decide +kernel
set_option maxRecDepth 20000 in
theorem ggX7_exp_X7_make : GoodIn wsX7_exp wsX7_make := goodIn_ca (goodIn_ca (goodIn_r _ [6, 7, 8, 9, 10, 11, 12, 13, 14, 15, 16, 17, 5, 18, 19, 20, 21, 22, 23, 24, 25, 26, 27, 28, 29, 30, 31, 32, 33, 34, 35, 36, 37, 38, 39, 40, 41, 42, 43, 44, 45, 46, 47, 48, 49, 50, 51, 52, 53, 54, 55, 56, 57, 58, 59, 60, 61, 62, 63, 64, 65, 66, 67, 68, 69, 70, 71, 72, 73, 74, 75, 76, 77, 78, 79, 80, 81, 82, 83, 84, 85, 86, 87, 88, 89, 90, 91, 92, 93, 94, 95, 96, 97, 98, 99, 100, 101, 102, 103, 104, 105, 106, 107, 108, 109, 110, 111, 112, 113, 114, 115, 116, 117, 118, 119, 120, 121, 122, 123, 124, 125, 126, 127, 128, 129, 130, 131, 132, 133, 134, 135, 136, 137, 138, 139, 140, 141, 142, 143, 144, 145, 146, 147, 148, 149, 150, 151, 152, 153, 154, 155, 156, 157, 158, 159, 160, 161, 162, 163, 164, 165, 166, 167, 168, 169, 170, 171, 172, 173, 174, 175, 176, 177] (by decide +kernel) (by decide +kernel)) (goodIn_sub (fun _ h => List.mem_cons_of_mem _ (List.mem_append_left _ (List.mem_append_right _ h))) (by decide +kernel))) (goodIn_sub (fun _ h => List.mem_cons_of_mem _ (List.mem_append_right _ h)) (by decide +kernel))
set_option maxRecDepth 20000 in
theorem gX7_exp_X7_make : GoodIn wsX7_exp (wsV RX7 103 RX7 yX7_make wsX7_make) := goodIn_app (goodIn_of _ (by decide +kernel)) ggX7_exp_X7_make
theorem dX7_exp_0 : decode cX7_exp 0 = .ok (.aload_n 0, 1) := by decide +kernel
theorem dX7_exp_1 : decode cX7_exp 1 = .ok (.getstatic 122, 3) := by decide +kernel
theorem dX7_exp_4 : decode cX7_exp 4 = .ok (.iload_n 1, 1) := by decide +kernel
theorem dX7_exp_5 : decode cX7_exp 5 = .ok (.iload_n 1, 1) := by decide +kernel
theorem dX7_exp_6 : decode cX7_exp 6 = .ok (.invokevirtual 103, 3) := by decide +kernel
theorem dX7_exp_9 : decode cX7_exp 9 = .ok (.ireturn, 1) := by decide +kernel
set_option maxRecDepth 20000 in
theorem ggX7_zero_X7_requireWithin : GoodIn wsX7_zero wsX7_requireWithin := goodIn_ca (goodIn_r _ [15, 16, 17] (by decide +kernel) (by decide +kernel)) (goodIn_sub (fun _ h => List.mem_cons_of_mem _ (List.mem_append_right _ h)) (by decide +kernel))
set_option maxRecDepth 20000 in
theorem gX7_zero_X7_requireWithin : GoodIn wsX7_zero (va_wsS RX7 51 yX7_requireWithin wsX7_requireWithin) := goodIn_app (goodIn_of _ (by decide +kernel)) ggX7_zero_X7_requireWithin
set_option maxRecDepth 20000 in
theorem ggX7_zero_X7_requireRoom : GoodIn wsX7_zero wsX7_requireRoom := goodIn_ca (goodIn_r _ [21, 1, 2, 22, 23, 137, 138, 139, 140, 141, 142, 143, 144] (by decide +kernel) (by decide +kernel)) (goodIn_sub (fun _ h => List.mem_cons_of_mem _ (List.mem_append_left _ (List.mem_append_right _ h))) (by decide +kernel))
set_option maxRecDepth 20000 in
theorem gX7_zero_X7_requireRoom : GoodIn wsX7_zero (wsV RX7 55 RX7 yX7_requireRoom wsX7_requireRoom) := goodIn_app (goodIn_of _ (by decide +kernel)) ggX7_zero_X7_requireRoom
set_option maxRecDepth 20000 in
theorem ggX7_zero_X4_init : GoodIn wsX7_zero wsX4_init := goodIn_r _ [26, 27, 28, 29, 30, 31, 32, 33, 125, 126, 127, 128] (by decide +kernel) (by decide +kernel)
set_option maxRecDepth 20000 in
theorem gX7_zero_X4_init : GoodIn wsX7_zero (wsX4_init) := ggX7_zero_X4_init
set_option maxRecDepth 20000 in
theorem ggX7_zero_X4_signAt : GoodIn wsX7_zero wsX4_signAt := goodIn_r _ [37, 33, 32, 31, 30, 38, 14, 39, 40, 41, 42, 43, 125, 126, 127, 128] (by decide +kernel) (by decide +kernel)
set_option maxRecDepth 20000 in
theorem gX7_zero_X4_signAt : GoodIn wsX7_zero (wsV RX7 130 RX4 yX4_signAt wsX4_signAt) := goodIn_app (goodIn_of _ (by decide +kernel)) ggX7_zero_X4_signAt
set_option maxRecDepth 20000 in
theorem ggX7_zero_X7_ownBit : GoodIn wsX7_zero wsX7_ownBit := goodIn_r _ [47, 22, 137, 138, 139, 140, 141, 142, 143, 144] (by decide +kernel) (by decide +kernel)
set_option maxRecDepth 20000 in
theorem gX7_zero_X7_ownBit : GoodIn wsX7_zero (wsV RX7 64 RX7 yX7_ownBit wsX7_ownBit) := goodIn_app (goodIn_of _ (by decide +kernel)) ggX7_zero_X7_ownBit
set_option maxRecDepth 20000 in
theorem ggX7_zero_X5_init : GoodIn wsX7_zero wsX5_init := goodIn_r _ [50, 51, 28, 29, 52, 53, 54, 55, 56, 57, 58, 59, 60, 61, 62, 63, 64, 65, 66, 67, 68, 69, 70, 71, 129, 130, 131, 132, 133, 134, 135, 136, 145, 146, 147] (by decide +kernel) (by decide +kernel)
set_option maxRecDepth 20000 in
theorem gX7_zero_X5_init : GoodIn wsX7_zero (wsX5_init) := ggX7_zero_X5_init
set_option maxRecDepth 20000 in
theorem ggX7_zero_X7_findZero : GoodIn wsX7_zero wsX7_findZero := goodIn_r _ [75, 76, 77, 78, 79, 80, 11, 81, 38, 14, 39, 34, 35, 36, 5, 37, 33, 32, 31, 30, 40, 41, 42, 43, 82, 83, 84, 85, 86, 87, 88, 89, 137, 138, 139, 140, 141, 142, 143, 144, 125, 126, 127, 128, 148, 149, 150] (by decide +kernel) (by decide +kernel)
set_option maxRecDepth 20000 in
theorem gX7_zero_X7_findZero : GoodIn wsX7_zero (wsV RX7 144 RX7 yX7_findZero wsX7_findZero) := goodIn_app (goodIn_of _ (by decide +kernel)) ggX7_zero_X7_findZero
set_option maxRecDepth 20000 in
theorem ggX7_zero_X6_put : GoodIn wsX7_zero wsX6_put := goodIn_r _ [93, 70, 68, 94, 95, 71, 96, 145, 146, 147, 148, 149, 150] (by decide +kernel) (by decide +kernel)
set_option maxRecDepth 20000 in
theorem gX7_zero_X6_put : GoodIn wsX7_zero (wsV RX7 92 RX6 yX6_put wsX6_put) := goodIn_app (goodIn_of _ (by decide +kernel)) ggX7_zero_X6_put
set_option maxRecDepth 20000 in
theorem ggX7_zero_X7_add : GoodIn wsX7_zero wsX7_add := goodIn_r _ [100, 11, 10, 101, 102, 22, 23, 103, 104, 105, 85, 106, 87, 88, 89, 107, 108, 109, 58, 110, 70, 68, 71, 111, 112, 83, 84, 86, 113, 114, 115, 116, 117, 118, 119, 78, 120, 121, 122, 123, 124, 90, 91, 92, 93, 94, 95, 96, 137, 138, 139, 140, 141, 142, 143, 144, 129, 130, 131, 132, 133, 134, 135, 136, 148, 149, 150, 145, 146, 147] (by decide +kernel) (by decide +kernel)
set_option maxRecDepth 20000 in
theorem gX7_zero_X7_add : GoodIn wsX7_zero (wsV RX7 96 RX7 yX7_add wsX7_add) := goodIn_app (goodIn_of _ (by decide +kernel)) ggX7_zero_X7_add
theorem dX7_zero_0 : decode cX7_zero 0 = .ok (.iload_n 1, 1) := by decide +kernel
theorem dX7_zero_1 : decode cX7_zero 1 = .ok (.bipush (-9), 2) := by decide +kernel
theorem dX7_zero_3 : decode cX7_zero 3 = .ok (.bipush 9, 2) := by decide +kernel
theorem dX7_zero_5 : decode cX7_zero 5 = .ok (.invokestatic 51, 3) := by decide +kernel
theorem dX7_zero_8 : decode cX7_zero 8 = .ok (.iload_n 2, 1) := by decide +kernel
theorem dX7_zero_9 : decode cX7_zero 9 = .ok (.bipush (-9), 2) := by decide +kernel
theorem dX7_zero_11 : decode cX7_zero 11 = .ok (.bipush 9, 2) := by decide +kernel
theorem dX7_zero_13 : decode cX7_zero 13 = .ok (.invokestatic 51, 3) := by decide +kernel
theorem dX7_zero_16 : decode cX7_zero 16 = .ok (.iload_n 3, 1) := by decide +kernel
theorem dX7_zero_17 : decode cX7_zero 17 = .ok (.bipush (-9), 2) := by decide +kernel
theorem dX7_zero_19 : decode cX7_zero 19 = .ok (.bipush 9, 2) := by decide +kernel
theorem dX7_zero_21 : decode cX7_zero 21 = .ok (.invokestatic 51, 3) := by decide +kernel
theorem dX7_zero_24 : decode cX7_zero 24 = .ok (.iload 4, 2) := by decide +kernel
theorem dX7_zero_26 : decode cX7_zero 26 = .ok (.bipush (-9), 2) := by decide +kernel
theorem dX7_zero_28 : decode cX7_zero 28 = .ok (.bipush 9, 2) := by decide +kernel
theorem dX7_zero_30 : decode cX7_zero 30 = .ok (.invokestatic 51, 3) := by decide +kernel
theorem dX7_zero_33 : decode cX7_zero 33 = .ok (.iload 5, 2) := by decide +kernel
theorem dX7_zero_35 : decode cX7_zero 35 = .ok (.bipush (-4), 2) := by decide +kernel
theorem dX7_zero_37 : decode cX7_zero 37 = .ok (.iconst 3, 1) := by decide +kernel
theorem dX7_zero_38 : decode cX7_zero 38 = .ok (.invokestatic 51, 3) := by decide +kernel
theorem dX7_zero_41 : decode cX7_zero 41 = .ok (.iload 6, 2) := by decide +kernel
theorem dX7_zero_43 : decode cX7_zero 43 = .ok (.iconst 0, 1) := by decide +kernel
theorem dX7_zero_44 : decode cX7_zero 44 = .ok (.iconst 2, 1) := by decide +kernel
theorem dX7_zero_45 : decode cX7_zero 45 = .ok (.invokestatic 51, 3) := by decide +kernel
theorem dX7_zero_48 : decode cX7_zero 48 = .ok (.aload_n 0, 1) := by decide +kernel
theorem dX7_zero_49 : decode cX7_zero 49 = .ok (.invokevirtual 55, 3) := by decide +kernel
theorem dX7_zero_52 : decode cX7_zero 52 = .ok (.new 125, 3) := by decide +kernel
theorem dX7_zero_55 : decode cX7_zero 55 = .ok (.dup, 1) := by decide +kernel
theorem dX7_zero_56 : decode cX7_zero 56 = .ok (.iload_n 1, 1) := by decide +kernel
theorem dX7_zero_57 : decode cX7_zero 57 = .ok (.iload_n 2, 1) := by decide +kernel
theorem dX7_zero_58 : decode cX7_zero 58 = .ok (.iload_n 3, 1) := by decide +kernel
theorem dX7_zero_59 : decode cX7_zero 59 = .ok (.iload 4, 2) := by decide +kernel
theorem dX7_zero_61 : decode cX7_zero 61 = .ok (.invokespecial 127, 3) := by decide +kernel
theorem dX7_zero_64 : decode cX7_zero 64 = .ok (.astore 7, 2) := by decide +kernel
theorem dX7_zero_66 : decode cX7_zero 66 = .ok (.aload 7, 2) := by decide +kernel
theorem dX7_zero_68 : decode cX7_zero 68 = .ok (.iload 5, 2) := by decide +kernel
theorem dX7_zero_70 : decode cX7_zero 70 = .ok (.i2l, 1) := by decide +kernel
theorem dX7_zero_71 : decode cX7_zero 71 = .ok (.iconst 0, 1) := by decide +kernel
theorem dX7_zero_72 : decode cX7_zero 72 = .ok (.invokevirtual 130, 3) := by decide +kernel
theorem dX7_zero_75 : decode cX7_zero 75 = .ok (.istore 8, 2) := by decide +kernel
theorem dX7_zero_77 : decode cX7_zero 77 = .ok (.aload 7, 2) := by decide +kernel
theorem dX7_zero_79 : decode cX7_zero 79 = .ok (.iload 5, 2) := by decide +kernel
theorem dX7_zero_81 : decode cX7_zero 81 = .ok (.iconst 1, 1) := by decide +kernel
theorem dX7_zero_82 : decode cX7_zero 82 = .ok (.iload 6, 2) := by decide +kernel
theorem dX7_zero_84 : decode cX7_zero 84 = .ok (.ishl, 1) := by decide +kernel
theorem dX7_zero_85 : decode cX7_zero 85 = .ok (.iadd, 1) := by decide +kernel
theorem dX7_zero_86 : decode cX7_zero 86 = .ok (.i2l, 1) := by decide +kernel
theorem dX7_zero_87 : decode cX7_zero 87 = .ok (.iconst 0, 1) := by decide +kernel
theorem dX7_zero_88 : decode cX7_zero 88 = .ok (.invokevirtual 130, 3) := by decide +kernel
theorem dX7_zero_91 : decode cX7_zero 91 = .ok (.istore 9, 2) := by decide +kernel
theorem dX7_zero_93 : decode cX7_zero 93 = .ok (.iload 8, 2) := by decide +kernel
theorem dX7_zero_95 : decode cX7_zero 95 = .ok (.iload 9, 2) := by decide +kernel
theorem dX7_zero_97 : decode cX7_zero 97 = .ok (.imul, 1) := by decide +kernel
theorem dX7_zero_98 : decode cX7_zero 98 = .ok (.ifCond .lt 13, 3) := by decide +kernel
theorem dX7_zero_101 : decode cX7_zero 101 = .ok (.new 134, 3) := by decide +kernel
theorem dX7_zero_104 : decode cX7_zero 104 = .ok (.dup, 1) := by decide +kernel
theorem dX7_zero_105 : decode cX7_zero 105 = .ok (.ldc 136, 2) := by decide +kernel
theorem dX7_zero_107 : decode cX7_zero 107 = .ok (.invokespecial 138, 3) := by decide +kernel
theorem dX7_zero_110 : decode cX7_zero 110 = .ok (.athrow, 1) := by decide +kernel
theorem dX7_zero_111 : decode cX7_zero 111 = .ok (.new 9, 3) := by decide +kernel
theorem dX7_zero_114 : decode cX7_zero 114 = .ok (.dup, 1) := by decide +kernel
theorem dX7_zero_115 : decode cX7_zero 115 = .ok (.getstatic 141, 3) := by decide +kernel
theorem dX7_zero_118 : decode cX7_zero 118 = .ok (.iconst (-1), 1) := by decide +kernel
theorem dX7_zero_119 : decode cX7_zero 119 = .ok (.iconst (-1), 1) := by decide +kernel
theorem dX7_zero_120 : decode cX7_zero 120 = .ok (.aload_n 0, 1) := by decide +kernel
theorem dX7_zero_121 : decode cX7_zero 121 = .ok (.invokevirtual 64, 3) := by decide +kernel
theorem dX7_zero_124 : decode cX7_zero 124 = .ok (.invokespecial 68, 3) := by decide +kernel
theorem dX7_zero_127 : decode cX7_zero 127 = .ok (.astore 10, 2) := by decide +kernel
theorem dX7_zero_129 : decode cX7_zero 129 = .ok (.iconst 0, 1) := by decide +kernel
theorem dX7_zero_130 : decode cX7_zero 130 = .ok (.istore 11, 2) := by decide +kernel
theorem dX7_zero_132 : decode cX7_zero 132 = .ok (.iload 11, 2) := by decide +kernel
theorem dX7_zero_134 : decode cX7_zero 134 = .ok (.bipush 24, 2) := by decide +kernel
theorem dX7_zero_136 : decode cX7_zero 136 = .ok (.if_icmp .gt 35, 3) := by decide +kernel
theorem dX7_zero_139 : decode cX7_zero 139 = .ok (.aload_n 0, 1) := by decide +kernel
theorem dX7_zero_140 : decode cX7_zero 140 = .ok (.aload 7, 2) := by decide +kernel
theorem dX7_zero_142 : decode cX7_zero 142 = .ok (.iload 5, 2) := by decide +kernel
theorem dX7_zero_144 : decode cX7_zero 144 = .ok (.iload 6, 2) := by decide +kernel
theorem dX7_zero_146 : decode cX7_zero 146 = .ok (.iload 11, 2) := by decide +kernel
theorem dX7_zero_148 : decode cX7_zero 148 = .ok (.invokevirtual 144, 3) := by decide +kernel
theorem dX7_zero_151 : decode cX7_zero 151 = .ok (.aload 10, 2) := by decide +kernel
theorem dX7_zero_153 : decode cX7_zero 153 = .ok (.getfield 89, 3) := by decide +kernel
theorem dX7_zero_156 : decode cX7_zero 156 = .ok (.iload 11, 2) := by decide +kernel
theorem dX7_zero_158 : decode cX7_zero 158 = .ok (.aload_n 0, 1) := by decide +kernel
theorem dX7_zero_159 : decode cX7_zero 159 = .ok (.getfield 22, 3) := by decide +kernel
theorem dX7_zero_162 : decode cX7_zero 162 = .ok (.invokevirtual 92, 3) := by decide +kernel
theorem dX7_zero_165 : decode cX7_zero 165 = .ok (.iinc 11 1, 3) := by decide +kernel
theorem dX7_zero_168 : decode cX7_zero 168 = .ok (.goto (-36), 3) := by decide +kernel
theorem dX7_zero_171 : decode cX7_zero 171 = .ok (.aload_n 0, 1) := by decide +kernel
theorem dX7_zero_172 : decode cX7_zero 172 = .ok (.aload 10, 2) := by decide +kernel
theorem dX7_zero_174 : decode cX7_zero 174 = .ok (.invokevirtual 96, 3) := by decide +kernel
theorem dX7_zero_177 : decode cX7_zero 177 = .ok (.ireturn, 1) := by decide +kernel
set_option maxRecDepth 20000 in
theorem ggX7_raw_X7_existing : GoodIn wsX7_raw wsX7_existing := goodIn_ca (goodIn_r _ [7, 8, 9, 10, 11, 54, 55, 56, 57, 58, 59, 60, 61] (by decide +kernel) (by decide +kernel)) (goodIn_sub (fun _ h => List.mem_cons_of_mem _ (List.mem_append_left _ (List.mem_append_left _ (List.mem_append_right _ h)))) (by decide +kernel))
set_option maxRecDepth 20000 in
theorem gX7_raw_X7_existing : GoodIn wsX7_raw (wsV RX7 148 RX7 yX7_existing wsX7_existing) := goodIn_app (goodIn_of _ (by decide +kernel)) ggX7_raw_X7_existing
set_option maxRecDepth 20000 in
theorem ggX7_raw_X7_requireWithin : GoodIn wsX7_raw wsX7_requireWithin := goodIn_ca (goodIn_r _ [14, 15, 16] (by decide +kernel) (by decide +kernel)) (goodIn_sub (fun _ h => List.mem_cons_of_mem _ (List.mem_append_left _ (List.mem_append_right _ h))) (by decide +kernel))
set_option maxRecDepth 20000 in
theorem gX7_raw_X7_requireWithin : GoodIn wsX7_raw (va_wsS RX7 51 yX7_requireWithin wsX7_requireWithin) := goodIn_app (goodIn_of _ (by decide +kernel)) ggX7_raw_X7_requireWithin
set_option maxRecDepth 20000 in
theorem ggX7_raw_X6_load : GoodIn wsX7_raw wsX6_load := goodIn_r _ [21, 22, 23, 24, 25, 26, 27, 28, 29, 30, 31, 32, 33, 34, 35, 36, 62, 63, 64, 65, 66, 67] (by decide +kernel) (by decide +kernel)
set_option maxRecDepth 20000 in
theorem gX7_raw_X6_load : GoodIn wsX7_raw (wsV RX7 152 RX6 yX6_load wsX6_load) := goodIn_app (goodIn_of _ (by decide +kernel)) ggX7_raw_X6_load
set_option maxRecDepth 20000 in
theorem ggX7_raw_X7_endOfAnswer : GoodIn wsX7_raw wsX7_endOfAnswer := goodIn_ca (goodIn_r _ [40, 41, 42, 2, 43, 44, 45, 54, 55, 56, 57, 58, 59, 60, 61, 65, 66, 67] (by decide +kernel) (by decide +kernel)) (goodIn_sub (fun _ h => List.mem_cons_of_mem _ (List.mem_append_right _ h)) (by decide +kernel))
set_option maxRecDepth 20000 in
theorem gX7_raw_X7_endOfAnswer : GoodIn wsX7_raw (wsV RX7 155 RX7 yX7_endOfAnswer wsX7_endOfAnswer) := goodIn_app (goodIn_of _ (by decide +kernel)) ggX7_raw_X7_endOfAnswer
theorem dX7_raw_0 : decode cX7_raw 0 = .ok (.aload_n 0, 1) := by decide +kernel
theorem dX7_raw_1 : decode cX7_raw 1 = .ok (.iload_n 1, 1) := by decide +kernel
theorem dX7_raw_2 : decode cX7_raw 2 = .ok (.invokevirtual 148, 3) := by decide +kernel
theorem dX7_raw_5 : decode cX7_raw 5 = .ok (.astore 4, 2) := by decide +kernel
theorem dX7_raw_7 : decode cX7_raw 7 = .ok (.iload_n 2, 1) := by decide +kernel
theorem dX7_raw_8 : decode cX7_raw 8 = .ok (.iconst 0, 1) := by decide +kernel
theorem dX7_raw_9 : decode cX7_raw 9 = .ok (.bipush 24, 2) := by decide +kernel
theorem dX7_raw_11 : decode cX7_raw 11 = .ok (.invokestatic 51, 3) := by decide +kernel
theorem dX7_raw_14 : decode cX7_raw 14 = .ok (.aload 4, 2) := by decide +kernel
theorem dX7_raw_16 : decode cX7_raw 16 = .ok (.getfield 89, 3) := by decide +kernel
theorem dX7_raw_19 : decode cX7_raw 19 = .ok (.iload_n 2, 1) := by decide +kernel
theorem dX7_raw_20 : decode cX7_raw 20 = .ok (.aload_n 0, 1) := by decide +kernel
theorem dX7_raw_21 : decode cX7_raw 21 = .ok (.getfield 22, 3) := by decide +kernel
theorem dX7_raw_24 : decode cX7_raw 24 = .ok (.invokevirtual 152, 3) := by decide +kernel
theorem dX7_raw_27 : decode cX7_raw 27 = .ok (.aload_n 0, 1) := by decide +kernel
theorem dX7_raw_28 : decode cX7_raw 28 = .ok (.iload_n 3, 1) := by decide +kernel
theorem dX7_raw_29 : decode cX7_raw 29 = .ok (.invokevirtual 155, 3) := by decide +kernel
theorem dX7_raw_32 : decode cX7_raw 32 = .ok (.lreturn, 1) := by decide +kernel
set_option maxRecDepth 20000 in
theorem ggX7_told_X7_loadTold : GoodIn wsX7_told wsX7_loadTold := goodIn_ca (goodIn_ca (goodIn_r _ [5, 6, 7, 8, 9, 10, 4, 11, 12, 13, 14, 15, 16, 17, 18, 19, 20, 21, 22, 23, 24, 25, 26, 27, 28, 29, 30, 31, 32, 33, 34, 35, 36, 37, 38, 39, 40, 50, 51, 52, 53, 54, 55, 56, 57, 58, 59, 60, 61, 62, 63, 64, 65, 66, 67, 68, 69, 70, 71] (by decide +kernel) (by decide +kernel)) (goodIn_sub (fun _ h => List.mem_cons_of_mem _ (List.mem_append_left _ (List.mem_append_left _ (List.mem_append_right _ h)))) (by decide +kernel))) (goodIn_sub (fun _ h => List.mem_cons_of_mem _ (List.mem_append_left _ (List.mem_append_right _ h))) (by decide +kernel))
set_option maxRecDepth 20000 in
theorem gX7_told_X7_loadTold : GoodIn wsX7_told (wsV RX7 159 RX7 yX7_loadTold wsX7_loadTold) := goodIn_app (goodIn_of _ (by decide +kernel)) ggX7_told_X7_loadTold
set_option maxRecDepth 20000 in
theorem ggX7_told_X7_endOfAnswer : GoodIn wsX7_told wsX7_endOfAnswer := goodIn_ca (goodIn_r _ [44, 45, 46, 7, 47, 48, 49, 58, 59, 60, 61, 62, 63, 64, 65, 69, 70, 71] (by decide +kernel) (by decide +kernel)) (goodIn_sub (fun _ h => List.mem_cons_of_mem _ (List.mem_append_right _ h)) (by decide +kernel))
set_option maxRecDepth 20000 in
theorem gX7_told_X7_endOfAnswer : GoodIn wsX7_told (wsV RX7 155 RX7 yX7_endOfAnswer wsX7_endOfAnswer) := goodIn_app (goodIn_of _ (by decide +kernel)) ggX7_told_X7_endOfAnswer
theorem dX7_told_0 : decode cX7_told 0 = .ok (.aload_n 0, 1) := by decide +kernel
theorem dX7_told_1 : decode cX7_told 1 = .ok (.iload_n 1, 1) := by decide +kernel
theorem dX7_told_2 : decode cX7_told 2 = .ok (.iload_n 2, 1) := by decide +kernel
theorem dX7_told_3 : decode cX7_told 3 = .ok (.invokevirtual 159, 3) := by decide +kernel
theorem dX7_told_6 : decode cX7_told 6 = .ok (.aload_n 0, 1) := by decide +kernel
theorem dX7_told_7 : decode cX7_told 7 = .ok (.iload_n 3, 1) := by decide +kernel
theorem dX7_told_8 : decode cX7_told 8 = .ok (.invokevirtual 155, 3) := by decide +kernel
theorem dX7_told_11 : decode cX7_told 11 = .ok (.lreturn, 1) := by decide +kernel
set_option maxRecDepth 20000 in
theorem ggX7_instead_X7_existing : GoodIn wsX7_instead wsX7_existing := goodIn_ca (goodIn_r _ [8, 9, 10, 11, 12, 142, 143, 144, 145, 146, 147, 148, 149] (by decide +kernel) (by decide +kernel)) (goodIn_sub (fun _ h => List.mem_cons_of_mem _ (List.mem_append_left _ (List.mem_append_left _ (List.mem_append_right _ h)))) (by decide +kernel))
set_option maxRecDepth 20000 in
theorem gX7_instead_X7_existing : GoodIn wsX7_instead (wsV RX7 148 RX7 yX7_existing wsX7_existing) := goodIn_app (goodIn_of _ (by decide +kernel)) ggX7_instead_X7_existing
set_option maxRecDepth 20000 in
theorem ggX7_instead_X7_requireWithin : GoodIn wsX7_instead wsX7_requireWithin := goodIn_ca (goodIn_r _ [15, 16, 17] (by decide +kernel) (by decide +kernel)) (goodIn_sub (fun _ h => List.mem_cons_of_mem _ (List.mem_append_left _ (List.mem_append_right _ h))) (by decide +kernel))
set_option maxRecDepth 20000 in
theorem gX7_instead_X7_requireWithin : GoodIn wsX7_instead (va_wsS RX7 51 yX7_requireWithin wsX7_requireWithin) := goodIn_app (goodIn_of _ (by decide +kernel)) ggX7_instead_X7_requireWithin
set_option maxRecDepth 20000 in
theorem ggX7_instead_X6_load : GoodIn wsX7_instead wsX6_load := goodIn_r _ [22, 23, 24, 25, 26, 27, 28, 29, 30, 31, 32, 33, 34, 35, 36, 37, 150, 151, 152, 153, 154, 155] (by decide +kernel) (by decide +kernel)
set_option maxRecDepth 20000 in
theorem gX7_instead_X6_load : GoodIn wsX7_instead (wsV RX7 152 RX6 yX6_load wsX6_load) := goodIn_app (goodIn_of _ (by decide +kernel)) ggX7_instead_X6_load
set_option maxRecDepth 20000 in
theorem ggX7_instead_X6_put : GoodIn wsX7_instead wsX6_put := goodIn_r _ [41, 23, 24, 42, 43, 25, 44, 150, 151, 152, 153, 154, 155] (by decide +kernel) (by decide +kernel)
set_option maxRecDepth 20000 in
theorem gX7_instead_X6_put : GoodIn wsX7_instead (wsV RX7 92 RX6 yX6_put wsX6_put) := goodIn_app (goodIn_of _ (by decide +kernel)) ggX7_instead_X6_put
set_option maxRecDepth 20000 in
theorem ggX7_instead_X7_suppose : GoodIn wsX7_instead wsX7_suppose := goodIn_ca (goodIn_r _ [48, 49, 50, 51, 52, 53, 3, 2, 4, 5, 6, 7, 8, 9, 10, 11, 12, 54, 55, 56, 57, 58, 59, 60, 61, 62, 63, 1, 18, 19, 20, 21, 22, 23, 24, 25, 26, 27, 28, 29, 30, 31, 32, 33, 34, 35, 36, 37, 64, 65, 66, 67, 68, 69, 70, 71, 72, 73, 74, 75, 76, 77, 78, 79, 80, 81, 82, 83, 84, 85, 86, 87, 88, 89, 90, 91, 92, 93, 94, 95, 96, 97, 98, 99, 100, 101, 102, 103, 104, 105, 106, 107, 108, 109, 110, 111, 112, 113, 114, 115, 116, 117, 118, 119, 120, 121, 122, 123, 124, 125, 126, 127, 38, 39, 40, 41, 42, 43, 44, 134, 135, 136, 137, 138, 139, 140, 141, 142, 143, 144, 145, 146, 147, 148, 149, 150, 151, 152, 153, 154, 155] (by decide +kernel) (by decide +kernel)) (goodIn_sub (fun _ h => List.mem_cons_of_mem _ (List.mem_append_left _ (List.mem_append_left _ (List.mem_append_right _ h)))) (by decide +kernel))
set_option maxRecDepth 20000 in
theorem gX7_instead_X7_suppose : GoodIn wsX7_instead (wsV RX7 163 RX7 yX7_suppose wsX7_suppose) := goodIn_app (goodIn_of _ (by decide +kernel)) ggX7_instead_X7_suppose
set_option maxRecDepth 20000 in
theorem ggX7_instead_X7_loadSupposed : GoodIn wsX7_instead wsX7_loadSupposed := goodIn_ca (goodIn_r _ [63, 3, 1, 4, 5, 6, 7, 8, 9, 10, 11, 12, 54, 55, 56, 57, 58, 59, 18, 19, 20, 21, 22, 23, 24, 25, 26, 27, 28, 29, 30, 31, 32, 33, 34, 35, 36, 37, 142, 143, 144, 145, 146, 147, 148, 149, 134, 135, 136, 137, 138, 139, 140, 141, 150, 151, 152, 153, 154, 155] (by decide +kernel) (by decide +kernel)) (goodIn_sub (fun _ h => List.mem_cons_of_mem _ (List.mem_append_left _ (List.mem_append_left _ (List.mem_append_right _ h)))) (by decide +kernel))
set_option maxRecDepth 20000 in
theorem gX7_instead_X7_loadSupposed : GoodIn wsX7_instead (wsV RX7 166 RX7 yX7_loadSupposed wsX7_loadSupposed) := goodIn_app (goodIn_of _ (by decide +kernel)) ggX7_instead_X7_loadSupposed
set_option maxRecDepth 20000 in
theorem ggX7_instead_X7_endOfAnswer : GoodIn wsX7_instead wsX7_endOfAnswer := goodIn_ca (goodIn_r _ [131, 132, 133, 2, 68, 71, 70, 142, 143, 144, 145, 146, 147, 148, 149, 153, 154, 155] (by decide +kernel) (by decide +kernel)) (goodIn_sub (fun _ h => List.mem_cons_of_mem _ (List.mem_append_right _ h)) (by decide +kernel))
set_option maxRecDepth 20000 in
theorem gX7_instead_X7_endOfAnswer : GoodIn wsX7_instead (wsV RX7 155 RX7 yX7_endOfAnswer wsX7_endOfAnswer) := goodIn_app (goodIn_of _ (by decide +kernel)) ggX7_instead_X7_endOfAnswer
theorem dX7_instead_0 : decode cX7_instead 0 = .ok (.aload_n 0, 1) := by decide +kernel
theorem dX7_instead_1 : decode cX7_instead 1 = .ok (.iload_n 1, 1) := by decide +kernel
theorem dX7_instead_2 : decode cX7_instead 2 = .ok (.invokevirtual 148, 3) := by decide +kernel
theorem dX7_instead_5 : decode cX7_instead 5 = .ok (.pop, 1) := by decide +kernel
theorem dX7_instead_6 : decode cX7_instead 6 = .ok (.aload_n 0, 1) := by decide +kernel
theorem dX7_instead_7 : decode cX7_instead 7 = .ok (.iload_n 2, 1) := by decide +kernel
theorem dX7_instead_8 : decode cX7_instead 8 = .ok (.invokevirtual 148, 3) := by decide +kernel
theorem dX7_instead_11 : decode cX7_instead 11 = .ok (.pop, 1) := by decide +kernel
theorem dX7_instead_12 : decode cX7_instead 12 = .ok (.aload_n 0, 1) := by decide +kernel
theorem dX7_instead_13 : decode cX7_instead 13 = .ok (.iload_n 3, 1) := by decide +kernel
theorem dX7_instead_14 : decode cX7_instead 14 = .ok (.invokevirtual 148, 3) := by decide +kernel
theorem dX7_instead_17 : decode cX7_instead 17 = .ok (.astore 6, 2) := by decide +kernel
theorem dX7_instead_19 : decode cX7_instead 19 = .ok (.iload 4, 2) := by decide +kernel
theorem dX7_instead_21 : decode cX7_instead 21 = .ok (.iconst 0, 1) := by decide +kernel
theorem dX7_instead_22 : decode cX7_instead 22 = .ok (.bipush 24, 2) := by decide +kernel
theorem dX7_instead_24 : decode cX7_instead 24 = .ok (.invokestatic 51, 3) := by decide +kernel
theorem dX7_instead_27 : decode cX7_instead 27 = .ok (.aload 6, 2) := by decide +kernel
theorem dX7_instead_29 : decode cX7_instead 29 = .ok (.getfield 89, 3) := by decide +kernel
theorem dX7_instead_32 : decode cX7_instead 32 = .ok (.iload 4, 2) := by decide +kernel
theorem dX7_instead_34 : decode cX7_instead 34 = .ok (.aload_n 0, 1) := by decide +kernel
theorem dX7_instead_35 : decode cX7_instead 35 = .ok (.getfield 22, 3) := by decide +kernel
theorem dX7_instead_38 : decode cX7_instead 38 = .ok (.invokevirtual 152, 3) := by decide +kernel
theorem dX7_instead_41 : decode cX7_instead 41 = .ok (.aload_n 0, 1) := by decide +kernel
theorem dX7_instead_42 : decode cX7_instead 42 = .ok (.getfield 37, 3) := by decide +kernel
theorem dX7_instead_45 : decode cX7_instead 45 = .ok (.iload_n 2, 1) := by decide +kernel
theorem dX7_instead_46 : decode cX7_instead 46 = .ok (.aload_n 0, 1) := by decide +kernel
theorem dX7_instead_47 : decode cX7_instead 47 = .ok (.getfield 22, 3) := by decide +kernel
theorem dX7_instead_50 : decode cX7_instead 50 = .ok (.invokevirtual 92, 3) := by decide +kernel
theorem dX7_instead_53 : decode cX7_instead 53 = .ok (.iload_n 2, 1) := by decide +kernel
theorem dX7_instead_54 : decode cX7_instead 54 = .ok (.iconst 1, 1) := by decide +kernel
theorem dX7_instead_55 : decode cX7_instead 55 = .ok (.iadd, 1) := by decide +kernel
theorem dX7_instead_56 : decode cX7_instead 56 = .ok (.istore 7, 2) := by decide +kernel
theorem dX7_instead_58 : decode cX7_instead 58 = .ok (.iload 7, 2) := by decide +kernel
theorem dX7_instead_60 : decode cX7_instead 60 = .ok (.iload_n 1, 1) := by decide +kernel
theorem dX7_instead_61 : decode cX7_instead 61 = .ok (.if_icmp .gt 18, 3) := by decide +kernel
theorem dX7_instead_64 : decode cX7_instead 64 = .ok (.aload_n 0, 1) := by decide +kernel
theorem dX7_instead_65 : decode cX7_instead 65 = .ok (.iload 7, 2) := by decide +kernel
theorem dX7_instead_67 : decode cX7_instead 67 = .ok (.iload_n 2, 1) := by decide +kernel
theorem dX7_instead_68 : decode cX7_instead 68 = .ok (.iload 4, 2) := by decide +kernel
theorem dX7_instead_70 : decode cX7_instead 70 = .ok (.invokevirtual 163, 3) := by decide +kernel
theorem dX7_instead_73 : decode cX7_instead 73 = .ok (.iinc 7 1, 3) := by decide +kernel
theorem dX7_instead_76 : decode cX7_instead 76 = .ok (.goto (-18), 3) := by decide +kernel
theorem dX7_instead_79 : decode cX7_instead 79 = .ok (.aload_n 0, 1) := by decide +kernel
theorem dX7_instead_80 : decode cX7_instead 80 = .ok (.iload_n 1, 1) := by decide +kernel
theorem dX7_instead_81 : decode cX7_instead 81 = .ok (.iload_n 2, 1) := by decide +kernel
theorem dX7_instead_82 : decode cX7_instead 82 = .ok (.iload 4, 2) := by decide +kernel
theorem dX7_instead_84 : decode cX7_instead 84 = .ok (.aload_n 0, 1) := by decide +kernel
theorem dX7_instead_85 : decode cX7_instead 85 = .ok (.getfield 22, 3) := by decide +kernel
theorem dX7_instead_88 : decode cX7_instead 88 = .ok (.invokevirtual 166, 3) := by decide +kernel
theorem dX7_instead_91 : decode cX7_instead 91 = .ok (.aload_n 0, 1) := by decide +kernel
theorem dX7_instead_92 : decode cX7_instead 92 = .ok (.iload 5, 2) := by decide +kernel
theorem dX7_instead_94 : decode cX7_instead 94 = .ok (.invokevirtual 155, 3) := by decide +kernel
theorem dX7_instead_97 : decode cX7_instead 97 = .ok (.lreturn, 1) := by decide +kernel
set_option maxRecDepth 20000 in
theorem ggX7_place_X7_existing : GoodIn wsX7_place wsX7_existing := goodIn_ca (goodIn_r _ [10, 11, 12, 13, 14, 51, 52, 53, 54, 55, 56, 57, 58] (by decide +kernel) (by decide +kernel)) (goodIn_sub (fun _ h => List.mem_cons_of_mem _ (List.mem_append_left _ (List.mem_append_right _ h))) (by decide +kernel))
set_option maxRecDepth 20000 in
theorem gX7_place_X7_existing : GoodIn wsX7_place (wsV RX7 148 RX7 yX7_existing wsX7_existing) := goodIn_app (goodIn_of _ (by decide +kernel)) ggX7_place_X7_existing
set_option maxRecDepth 20000 in
theorem ggX7_place_X7_requireWithin : GoodIn wsX7_place wsX7_requireWithin := goodIn_ca (goodIn_r _ [17, 18, 19] (by decide +kernel) (by decide +kernel)) (goodIn_sub (fun _ h => List.mem_cons_of_mem _ (List.mem_append_right _ h)) (by decide +kernel))
set_option maxRecDepth 20000 in
theorem gX7_place_X7_requireWithin : GoodIn wsX7_place (va_wsS RX7 51 yX7_requireWithin wsX7_requireWithin) := goodIn_app (goodIn_of _ (by decide +kernel)) ggX7_place_X7_requireWithin
set_option maxRecDepth 20000 in
theorem ggX7_place_X6_load : GoodIn wsX7_place wsX6_load := goodIn_r _ [24, 25, 26, 27, 28, 29, 30, 31, 32, 33, 34, 35, 36, 37, 38, 39, 62, 63, 64, 59, 60, 61] (by decide +kernel) (by decide +kernel)
set_option maxRecDepth 20000 in
theorem gX7_place_X6_load : GoodIn wsX7_place (wsV RX7 152 RX6 yX6_load wsX6_load) := goodIn_app (goodIn_of _ (by decide +kernel)) ggX7_place_X6_load
set_option maxRecDepth 20000 in
theorem ggX7_place_X7_unitsAt : GoodIn wsX7_place wsX7_unitsAt := goodIn_r _ [42] (by decide +kernel) (by decide +kernel)
set_option maxRecDepth 20000 in
theorem gX7_place_X7_unitsAt : GoodIn wsX7_place (va_wsS RX7 71 yX7_unitsAt wsX7_unitsAt) := goodIn_app (goodIn_of _ (by decide +kernel)) ggX7_place_X7_unitsAt
theorem dX7_place_0 : decode cX7_place 0 = .ok (.aload_n 0, 1) := by decide +kernel
theorem dX7_place_1 : decode cX7_place 1 = .ok (.iload_n 1, 1) := by decide +kernel
theorem dX7_place_2 : decode cX7_place 2 = .ok (.invokevirtual 148, 3) := by decide +kernel
theorem dX7_place_5 : decode cX7_place 5 = .ok (.astore_n 3, 1) := by decide +kernel
theorem dX7_place_6 : decode cX7_place 6 = .ok (.iload_n 2, 1) := by decide +kernel
theorem dX7_place_7 : decode cX7_place 7 = .ok (.iconst 0, 1) := by decide +kernel
theorem dX7_place_8 : decode cX7_place 8 = .ok (.bipush 24, 2) := by decide +kernel
theorem dX7_place_10 : decode cX7_place 10 = .ok (.invokestatic 51, 3) := by decide +kernel
theorem dX7_place_13 : decode cX7_place 13 = .ok (.iload_n 2, 1) := by decide +kernel
theorem dX7_place_14 : decode cX7_place 14 = .ok (.istore 4, 2) := by decide +kernel
theorem dX7_place_16 : decode cX7_place 16 = .ok (.iload 4, 2) := by decide +kernel
theorem dX7_place_18 : decode cX7_place 18 = .ok (.bipush 24, 2) := by decide +kernel
theorem dX7_place_20 : decode cX7_place 20 = .ok (.if_icmp .gt 61, 3) := by decide +kernel
theorem dX7_place_23 : decode cX7_place 23 = .ok (.aload_n 3, 1) := by decide +kernel
theorem dX7_place_24 : decode cX7_place 24 = .ok (.getfield 170, 3) := by decide +kernel
theorem dX7_place_27 : decode cX7_place 27 = .ok (.iload 4, 2) := by decide +kernel
theorem dX7_place_29 : decode cX7_place 29 = .ok (.aload_n 0, 1) := by decide +kernel
theorem dX7_place_30 : decode cX7_place 30 = .ok (.getfield 22, 3) := by decide +kernel
theorem dX7_place_33 : decode cX7_place 33 = .ok (.invokevirtual 152, 3) := by decide +kernel
theorem dX7_place_36 : decode cX7_place 36 = .ok (.aload_n 0, 1) := by decide +kernel
theorem dX7_place_37 : decode cX7_place 37 = .ok (.getfield 22, 3) := by decide +kernel
theorem dX7_place_40 : decode cX7_place 40 = .ok (.getfield 173, 3) := by decide +kernel
theorem dX7_place_43 : decode cX7_place 43 = .ok (.ifCond .eq 32, 3) := by decide +kernel
theorem dX7_place_46 : decode cX7_place 46 = .ok (.aload_n 0, 1) := by decide +kernel
theorem dX7_place_47 : decode cX7_place 47 = .ok (.getfield 22, 3) := by decide +kernel
theorem dX7_place_50 : decode cX7_place 50 = .ok (.getfield 177, 3) := by decide +kernel
theorem dX7_place_53 : decode cX7_place 53 = .ok (.aload_n 0, 1) := by decide +kernel
theorem dX7_place_54 : decode cX7_place 54 = .ok (.getfield 22, 3) := by decide +kernel
theorem dX7_place_57 : decode cX7_place 57 = .ok (.getfield 181, 3) := by decide +kernel
theorem dX7_place_60 : decode cX7_place 60 = .ok (.lsub, 1) := by decide +kernel
theorem dX7_place_61 : decode cX7_place 61 = .ok (.iload 4, 2) := by decide +kernel
theorem dX7_place_63 : decode cX7_place 63 = .ok (.iload_n 2, 1) := by decide +kernel
theorem dX7_place_64 : decode cX7_place 64 = .ok (.isub, 1) := by decide +kernel
theorem dX7_place_65 : decode cX7_place 65 = .ok (.invokestatic 71, 3) := by decide +kernel
theorem dX7_place_68 : decode cX7_place 68 = .ok (.lcmp, 1) := by decide +kernel
theorem dX7_place_69 : decode cX7_place 69 = .ok (.ifCond .gt 6, 3) := by decide +kernel
theorem dX7_place_72 : decode cX7_place 72 = .ok (.iload 4, 2) := by decide +kernel
theorem dX7_place_74 : decode cX7_place 74 = .ok (.ireturn, 1) := by decide +kernel
theorem dX7_place_75 : decode cX7_place 75 = .ok (.iinc 4 1, 3) := by decide +kernel
theorem dX7_place_78 : decode cX7_place 78 = .ok (.goto (-62), 3) := by decide +kernel
theorem dX7_place_81 : decode cX7_place 81 = .ok (.iconst (-1), 1) := by decide +kernel
theorem dX7_place_82 : decode cX7_place 82 = .ok (.ireturn, 1) := by decide +kernel
set_option maxRecDepth 20000 in
theorem ggX7_compare_X7_existing : GoodIn wsX7_compare wsX7_existing := goodIn_ca (goodIn_r _ [5, 6, 7, 8, 9, 45, 46, 47, 48, 49, 50, 51, 52] (by decide +kernel) (by decide +kernel)) (goodIn_sub (fun _ h => List.mem_cons_of_mem _ (List.mem_append_left _ (List.mem_append_right _ h))) (by decide +kernel))
set_option maxRecDepth 20000 in
theorem gX7_compare_X7_existing : GoodIn wsX7_compare (wsV RX7 148 RX7 yX7_existing wsX7_existing) := goodIn_app (goodIn_of _ (by decide +kernel)) ggX7_compare_X7_existing
set_option maxRecDepth 20000 in
theorem ggX7_compare_X7_requireWithin : GoodIn wsX7_compare wsX7_requireWithin := goodIn_ca (goodIn_r _ [12, 13, 14] (by decide +kernel) (by decide +kernel)) (goodIn_sub (fun _ h => List.mem_cons_of_mem _ (List.mem_append_right _ h)) (by decide +kernel))
set_option maxRecDepth 20000 in
theorem gX7_compare_X7_requireWithin : GoodIn wsX7_compare (va_wsS RX7 51 yX7_requireWithin wsX7_requireWithin) := goodIn_app (goodIn_of _ (by decide +kernel)) ggX7_compare_X7_requireWithin
set_option maxRecDepth 20000 in
theorem ggX7_compare_X7_compareAt : GoodIn wsX7_compare wsX7_compareAt := goodIn_r _ [18, 19, 20, 21, 22, 23, 24, 25, 26, 27, 28, 29, 30, 31, 32, 33, 34, 35, 36, 37, 38, 39, 40, 41, 42, 43, 44, 53, 54, 55, 56, 57, 58, 59, 60, 45, 46, 47, 48, 49, 50, 51, 52, 61, 62, 63, 64, 65, 66] (by decide +kernel) (by decide +kernel)
set_option maxRecDepth 20000 in
theorem gX7_compare_X7_compareAt : GoodIn wsX7_compare (wsV RX7 184 RX7 yX7_compareAt wsX7_compareAt) := goodIn_app (goodIn_of _ (by decide +kernel)) ggX7_compare_X7_compareAt
theorem dX7_compare_0 : decode cX7_compare 0 = .ok (.aload_n 0, 1) := by decide +kernel
theorem dX7_compare_1 : decode cX7_compare 1 = .ok (.iload_n 1, 1) := by decide +kernel
theorem dX7_compare_2 : decode cX7_compare 2 = .ok (.invokevirtual 148, 3) := by decide +kernel
theorem dX7_compare_5 : decode cX7_compare 5 = .ok (.astore 4, 2) := by decide +kernel
theorem dX7_compare_7 : decode cX7_compare 7 = .ok (.aload_n 0, 1) := by decide +kernel
theorem dX7_compare_8 : decode cX7_compare 8 = .ok (.iload_n 2, 1) := by decide +kernel
theorem dX7_compare_9 : decode cX7_compare 9 = .ok (.invokevirtual 148, 3) := by decide +kernel
theorem dX7_compare_12 : decode cX7_compare 12 = .ok (.astore 5, 2) := by decide +kernel
theorem dX7_compare_14 : decode cX7_compare 14 = .ok (.iload_n 3, 1) := by decide +kernel
theorem dX7_compare_15 : decode cX7_compare 15 = .ok (.iconst 0, 1) := by decide +kernel
theorem dX7_compare_16 : decode cX7_compare 16 = .ok (.bipush 24, 2) := by decide +kernel
theorem dX7_compare_18 : decode cX7_compare 18 = .ok (.invokestatic 51, 3) := by decide +kernel
theorem dX7_compare_21 : decode cX7_compare 21 = .ok (.aload_n 0, 1) := by decide +kernel
theorem dX7_compare_22 : decode cX7_compare 22 = .ok (.aload 4, 2) := by decide +kernel
theorem dX7_compare_24 : decode cX7_compare 24 = .ok (.aload 5, 2) := by decide +kernel
theorem dX7_compare_26 : decode cX7_compare 26 = .ok (.iload_n 3, 1) := by decide +kernel
theorem dX7_compare_27 : decode cX7_compare 27 = .ok (.invokevirtual 184, 3) := by decide +kernel
theorem dX7_compare_30 : decode cX7_compare 30 = .ok (.ireturn, 1) := by decide +kernel
set_option maxRecDepth 20000 in
theorem ggX7_decided_X7_existing : GoodIn wsX7_decided wsX7_existing := goodIn_ca (goodIn_r _ [5, 6, 7, 8, 9, 40, 41, 42, 43, 44, 45, 46, 47] (by decide +kernel) (by decide +kernel)) (goodIn_sub (fun _ h => List.mem_cons_of_mem _ (List.mem_append_right _ h)) (by decide +kernel))
set_option maxRecDepth 20000 in
theorem gX7_decided_X7_existing : GoodIn wsX7_decided (wsV RX7 148 RX7 yX7_existing wsX7_existing) := goodIn_app (goodIn_of _ (by decide +kernel)) ggX7_decided_X7_existing
set_option maxRecDepth 20000 in
theorem ggX7_decided_X7_compareAt : GoodIn wsX7_decided wsX7_compareAt := goodIn_r _ [13, 14, 15, 16, 17, 18, 19, 20, 21, 22, 23, 24, 25, 26, 27, 28, 29, 30, 31, 32, 33, 34, 35, 36, 37, 38, 39, 48, 49, 50, 51, 52, 53, 54, 55, 40, 41, 42, 43, 44, 45, 46, 47, 56, 57, 58, 59, 60, 61] (by decide +kernel) (by decide +kernel)
set_option maxRecDepth 20000 in
theorem gX7_decided_X7_compareAt : GoodIn wsX7_decided (wsV RX7 184 RX7 yX7_compareAt wsX7_compareAt) := goodIn_app (goodIn_of _ (by decide +kernel)) ggX7_decided_X7_compareAt
theorem dX7_decided_0 : decode cX7_decided 0 = .ok (.aload_n 0, 1) := by decide +kernel
theorem dX7_decided_1 : decode cX7_decided 1 = .ok (.iload_n 1, 1) := by decide +kernel
theorem dX7_decided_2 : decode cX7_decided 2 = .ok (.invokevirtual 148, 3) := by decide +kernel
theorem dX7_decided_5 : decode cX7_decided 5 = .ok (.astore_n 3, 1) := by decide +kernel
theorem dX7_decided_6 : decode cX7_decided 6 = .ok (.aload_n 0, 1) := by decide +kernel
theorem dX7_decided_7 : decode cX7_decided 7 = .ok (.iload_n 2, 1) := by decide +kernel
theorem dX7_decided_8 : decode cX7_decided 8 = .ok (.invokevirtual 148, 3) := by decide +kernel
theorem dX7_decided_11 : decode cX7_decided 11 = .ok (.astore 4, 2) := by decide +kernel
theorem dX7_decided_13 : decode cX7_decided 13 = .ok (.iconst 0, 1) := by decide +kernel
theorem dX7_decided_14 : decode cX7_decided 14 = .ok (.istore 5, 2) := by decide +kernel
theorem dX7_decided_16 : decode cX7_decided 16 = .ok (.iload 5, 2) := by decide +kernel
theorem dX7_decided_18 : decode cX7_decided 18 = .ok (.bipush 24, 2) := by decide +kernel
theorem dX7_decided_20 : decode cX7_decided 20 = .ok (.if_icmp .gt 24, 3) := by decide +kernel
theorem dX7_decided_23 : decode cX7_decided 23 = .ok (.aload_n 0, 1) := by decide +kernel
theorem dX7_decided_24 : decode cX7_decided 24 = .ok (.aload_n 3, 1) := by decide +kernel
theorem dX7_decided_25 : decode cX7_decided 25 = .ok (.aload 4, 2) := by decide +kernel
theorem dX7_decided_27 : decode cX7_decided 27 = .ok (.iload 5, 2) := by decide +kernel
theorem dX7_decided_29 : decode cX7_decided 29 = .ok (.invokevirtual 184, 3) := by decide +kernel
theorem dX7_decided_32 : decode cX7_decided 32 = .ok (.ifCond .eq 6, 3) := by decide +kernel
theorem dX7_decided_35 : decode cX7_decided 35 = .ok (.iload 5, 2) := by decide +kernel
theorem dX7_decided_37 : decode cX7_decided 37 = .ok (.ireturn, 1) := by decide +kernel
theorem dX7_decided_38 : decode cX7_decided 38 = .ok (.iinc 5 1, 3) := by decide +kernel
theorem dX7_decided_41 : decode cX7_decided 41 = .ok (.goto (-25), 3) := by decide +kernel
theorem dX7_decided_44 : decode cX7_decided 44 = .ok (.iconst (-1), 1) := by decide +kernel
theorem dX7_decided_45 : decode cX7_decided 45 = .ok (.ireturn, 1) := by decide +kernel
set_option maxRecDepth 20000 in
theorem ggX7_decimals_X7_loadTold : GoodIn wsX7_decimals wsX7_loadTold := goodIn_ca (goodIn_ca (goodIn_r _ [5, 6, 7, 8, 9, 10, 4, 11, 12, 13, 14, 15, 16, 17, 18, 19, 20, 21, 22, 23, 24, 25, 26, 27, 28, 29, 30, 31, 32, 33, 34, 35, 36, 37, 38, 39, 40, 62, 63, 64, 65, 66, 67, 68, 69, 70, 71, 72, 73, 74, 75, 76, 77, 78, 79, 80, 81, 82, 83] (by decide +kernel) (by decide +kernel)) (goodIn_sub (fun _ h => List.mem_cons_of_mem _ (List.mem_append_left _ (List.mem_append_right _ h))) (by decide +kernel))) (goodIn_sub (fun _ h => List.mem_cons_of_mem _ (List.mem_append_right _ h)) (by decide +kernel))
set_option maxRecDepth 20000 in
theorem gX7_decimals_X7_loadTold : GoodIn wsX7_decimals (wsV RX7 159 RX7 yX7_loadTold wsX7_loadTold) := goodIn_app (goodIn_of _ (by decide +kernel)) ggX7_decimals_X7_loadTold
set_option maxRecDepth 20000 in
theorem ggX7_decimals_X7_sureDecimals : GoodIn wsX7_decimals wsX7_sureDecimals := goodIn_r _ [44, 7, 45, 46, 47, 48, 49, 4, 50, 51, 52, 53, 54, 55, 56, 57, 58, 59, 60, 61, 70, 71, 72, 73, 74, 75, 76, 77, 81, 82, 83] (by decide +kernel) (by decide +kernel)
set_option maxRecDepth 20000 in
theorem gX7_decimals_X7_sureDecimals : GoodIn wsX7_decimals (wsV RX7 188 RX7 yX7_sureDecimals wsX7_sureDecimals) := goodIn_app (goodIn_of _ (by decide +kernel)) ggX7_decimals_X7_sureDecimals
theorem dX7_decimals_0 : decode cX7_decimals 0 = .ok (.aload_n 0, 1) := by decide +kernel
theorem dX7_decimals_1 : decode cX7_decimals 1 = .ok (.iload_n 1, 1) := by decide +kernel
theorem dX7_decimals_2 : decode cX7_decimals 2 = .ok (.iload_n 2, 1) := by decide +kernel
theorem dX7_decimals_3 : decode cX7_decimals 3 = .ok (.invokevirtual 159, 3) := by decide +kernel
theorem dX7_decimals_6 : decode cX7_decimals 6 = .ok (.aload_n 0, 1) := by decide +kernel
theorem dX7_decimals_7 : decode cX7_decimals 7 = .ok (.iload_n 2, 1) := by decide +kernel
theorem dX7_decimals_8 : decode cX7_decimals 8 = .ok (.invokevirtual 188, 3) := by decide +kernel
theorem dX7_decimals_11 : decode cX7_decimals 11 = .ok (.ireturn, 1) := by decide +kernel
set_option maxRecDepth 20000 in
theorem ggX7_decimal_X7_loadTold : GoodIn wsX7_decimal wsX7_loadTold := goodIn_ca (goodIn_ca (goodIn_r _ [10, 11, 3, 12, 13, 14, 9, 15, 16, 17, 18, 19, 20, 21, 22, 23, 24, 25, 26, 27, 28, 29, 30, 31, 32, 33, 34, 35, 36, 37, 38, 39, 40, 41, 42, 43, 44, 79, 80, 81, 82, 83, 84, 85, 86, 68, 69, 70, 71, 72, 73, 74, 75, 87, 88, 89, 76, 77, 78] (by decide +kernel) (by decide +kernel)) (goodIn_sub (fun _ h => List.mem_cons_of_mem _ (List.mem_append_left _ (List.mem_append_right _ h))) (by decide +kernel))) (goodIn_sub (fun _ h => List.mem_cons_of_mem _ (List.mem_append_right _ h)) (by decide +kernel))
set_option maxRecDepth 20000 in
theorem gX7_decimal_X7_loadTold : GoodIn wsX7_decimal (wsV RX7 159 RX7 yX7_loadTold wsX7_loadTold) := goodIn_app (goodIn_of _ (by decide +kernel)) ggX7_decimal_X7_loadTold
set_option maxRecDepth 20000 in
theorem ggX7_decimal_X7_requireWithin : GoodIn wsX7_decimal wsX7_requireWithin := goodIn_ca (goodIn_r _ [22, 23, 24] (by decide +kernel) (by decide +kernel)) (goodIn_sub (fun _ h => List.mem_cons_of_mem _ (List.mem_append_right _ h)) (by decide +kernel))
set_option maxRecDepth 20000 in
theorem gX7_decimal_X7_requireWithin : GoodIn wsX7_decimal (va_wsS RX7 51 yX7_requireWithin wsX7_requireWithin) := goodIn_app (goodIn_of _ (by decide +kernel)) ggX7_decimal_X7_requireWithin
set_option maxRecDepth 20000 in
theorem ggX7_decimal_X7_sureDecimals : GoodIn wsX7_decimal wsX7_sureDecimals := goodIn_r _ [48, 3, 49, 4, 50, 51, 52, 9, 53, 54, 55, 56, 57, 58, 59, 60, 61, 62, 63, 64, 68, 69, 70, 71, 72, 73, 74, 75, 76, 77, 78] (by decide +kernel) (by decide +kernel)
set_option maxRecDepth 20000 in
theorem gX7_decimal_X7_sureDecimals : GoodIn wsX7_decimal (wsV RX7 188 RX7 yX7_sureDecimals wsX7_sureDecimals) := goodIn_app (goodIn_of _ (by decide +kernel)) ggX7_decimal_X7_sureDecimals
set_option maxRecDepth 20000 in
theorem ggX7_decimal_X7_shifted : GoodIn wsX7_decimal wsX7_shifted := goodIn_r _ [53, 54, 55, 56, 9, 57, 58, 59, 60, 61, 62, 63, 64] (by decide +kernel) (by decide +kernel)
set_option maxRecDepth 20000 in
theorem gX7_decimal_X7_shifted : GoodIn wsX7_decimal (va_wsS RX7 194 yX7_shifted wsX7_shifted) := goodIn_app (goodIn_of _ (by decide +kernel)) ggX7_decimal_X7_shifted
set_option maxRecDepth 20000 in
theorem ggX7_decimal_J9_floorMod_f86c9 : GoodIn wsX7_decimal wsJ9_floorMod_f86c9 := goodIn_r _ [67] (by decide +kernel) (by decide +kernel)
set_option maxRecDepth 20000 in
theorem gX7_decimal_J9_floorMod_f86c9 : GoodIn wsX7_decimal (va_wsS RX7 200 yJ9_floorMod_f86c9 wsJ9_floorMod_f86c9) := goodIn_app (goodIn_of _ (by decide +kernel)) ggX7_decimal_J9_floorMod_f86c9
theorem dX7_decimal_0 : decode cX7_decimal 0 = .ok (.aload_n 0, 1) := by decide +kernel
theorem dX7_decimal_1 : decode cX7_decimal 1 = .ok (.iload_n 1, 1) := by decide +kernel
theorem dX7_decimal_2 : decode cX7_decimal 2 = .ok (.iload_n 2, 1) := by decide +kernel
theorem dX7_decimal_3 : decode cX7_decimal 3 = .ok (.invokevirtual 159, 3) := by decide +kernel
theorem dX7_decimal_6 : decode cX7_decimal 6 = .ok (.iload_n 3, 1) := by decide +kernel
theorem dX7_decimal_7 : decode cX7_decimal 7 = .ok (.iconst 0, 1) := by decide +kernel
theorem dX7_decimal_8 : decode cX7_decimal 8 = .ok (.bipush 7, 2) := by decide +kernel
theorem dX7_decimal_10 : decode cX7_decimal 10 = .ok (.invokestatic 51, 3) := by decide +kernel
theorem dX7_decimal_13 : decode cX7_decimal 13 = .ok (.iload_n 3, 1) := by decide +kernel
theorem dX7_decimal_14 : decode cX7_decimal 14 = .ok (.aload_n 0, 1) := by decide +kernel
theorem dX7_decimal_15 : decode cX7_decimal 15 = .ok (.iload_n 2, 1) := by decide +kernel
theorem dX7_decimal_16 : decode cX7_decimal 16 = .ok (.invokevirtual 188, 3) := by decide +kernel
theorem dX7_decimal_19 : decode cX7_decimal 19 = .ok (.if_icmp .le 13, 3) := by decide +kernel
theorem dX7_decimal_22 : decode cX7_decimal 22 = .ok (.new 134, 3) := by decide +kernel
theorem dX7_decimal_25 : decode cX7_decimal 25 = .ok (.dup, 1) := by decide +kernel
theorem dX7_decimal_26 : decode cX7_decimal 26 = .ok (.ldc 192, 2) := by decide +kernel
theorem dX7_decimal_28 : decode cX7_decimal 28 = .ok (.invokespecial 138, 3) := by decide +kernel
theorem dX7_decimal_31 : decode cX7_decimal 31 = .ok (.athrow, 1) := by decide +kernel
theorem dX7_decimal_32 : decode cX7_decimal 32 = .ok (.aload_n 0, 1) := by decide +kernel
theorem dX7_decimal_33 : decode cX7_decimal 33 = .ok (.getfield 22, 3) := by decide +kernel
theorem dX7_decimal_36 : decode cX7_decimal 36 = .ok (.getfield 181, 3) := by decide +kernel
theorem dX7_decimal_39 : decode cX7_decimal 39 = .ok (.iload_n 3, 1) := by decide +kernel
theorem dX7_decimal_40 : decode cX7_decimal 40 = .ok (.iload_n 2, 1) := by decide +kernel
theorem dX7_decimal_41 : decode cX7_decimal 41 = .ok (.invokestatic 194, 3) := by decide +kernel
theorem dX7_decimal_44 : decode cX7_decimal 44 = .ok (.lstore 4, 2) := by decide +kernel
theorem dX7_decimal_46 : decode cX7_decimal 46 = .ok (.iload_n 3, 1) := by decide +kernel
theorem dX7_decimal_47 : decode cX7_decimal 47 = .ok (.ifCond .ne 8, 3) := by decide +kernel
theorem dX7_decimal_50 : decode cX7_decimal 50 = .ok (.lload 4, 2) := by decide +kernel
theorem dX7_decimal_52 : decode cX7_decimal 52 = .ok (.goto 11, 3) := by decide +kernel
theorem dX7_decimal_55 : decode cX7_decimal 55 = .ok (.lload 4, 2) := by decide +kernel
theorem dX7_decimal_57 : decode cX7_decimal 57 = .ok (.ldc2_w 198, 3) := by decide +kernel
theorem dX7_decimal_60 : decode cX7_decimal 60 = .ok (.invokestatic 200, 3) := by decide +kernel
theorem dX7_decimal_63 : decode cX7_decimal 63 = .ok (.l2i, 1) := by decide +kernel
theorem dX7_decimal_64 : decode cX7_decimal 64 = .ok (.ireturn, 1) := by decide +kernel
set_option maxRecDepth 20000 in
theorem ggX7_quotient_X7_loadTold : GoodIn wsX7_quotient wsX7_loadTold := goodIn_ca (goodIn_ca (goodIn_r _ [13, 14, 3, 15, 16, 17, 12, 18, 19, 20, 21, 22, 23, 24, 25, 26, 27, 28, 29, 30, 31, 32, 33, 34, 35, 36, 37, 38, 39, 40, 41, 42, 43, 44, 45, 46, 47, 89, 90, 91, 92, 93, 94, 95, 96, 78, 79, 80, 81, 82, 83, 84, 85, 97, 98, 99, 86, 87, 88] (by decide +kernel) (by decide +kernel)) (goodIn_sub (fun _ h => List.mem_cons_of_mem _ (List.mem_append_left _ (List.mem_append_right _ h))) (by decide +kernel))) (goodIn_sub (fun _ h => List.mem_cons_of_mem _ (List.mem_append_right _ h)) (by decide +kernel))
set_option maxRecDepth 20000 in
theorem gX7_quotient_X7_loadTold : GoodIn wsX7_quotient (wsV RX7 159 RX7 yX7_loadTold wsX7_loadTold) := goodIn_app (goodIn_of _ (by decide +kernel)) ggX7_quotient_X7_loadTold
set_option maxRecDepth 20000 in
theorem ggX7_quotient_X7_requireWithin : GoodIn wsX7_quotient wsX7_requireWithin := goodIn_ca (goodIn_r _ [25, 26, 27] (by decide +kernel) (by decide +kernel)) (goodIn_sub (fun _ h => List.mem_cons_of_mem _ (List.mem_append_right _ h)) (by decide +kernel))
set_option maxRecDepth 20000 in
theorem gX7_quotient_X7_requireWithin : GoodIn wsX7_quotient (va_wsS RX7 51 yX7_requireWithin wsX7_requireWithin) := goodIn_app (goodIn_of _ (by decide +kernel)) ggX7_quotient_X7_requireWithin
set_option maxRecDepth 20000 in
theorem ggX7_quotient_X7_unitsAt : GoodIn wsX7_quotient wsX7_unitsAt := goodIn_r _ [50] (by decide +kernel) (by decide +kernel)
set_option maxRecDepth 20000 in
theorem gX7_quotient_X7_unitsAt : GoodIn wsX7_quotient (va_wsS RX7 71 yX7_unitsAt wsX7_unitsAt) := goodIn_app (goodIn_of _ (by decide +kernel)) ggX7_quotient_X7_unitsAt
set_option maxRecDepth 20000 in
theorem ggX7_quotient_X1_assign : GoodIn wsX7_quotient wsX1_assign := goodIn_r _ [55, 56, 57, 100, 101] (by decide +kernel) (by decide +kernel)
set_option maxRecDepth 20000 in
theorem gX7_quotient_X1_assign : GoodIn wsX7_quotient (wsV RX7 207 RX1 yX1_assign wsX1_assign) := goodIn_app (goodIn_of _ (by decide +kernel)) ggX7_quotient_X1_assign
set_option maxRecDepth 20000 in
theorem ggX7_quotient_X7_isQuotientSure : GoodIn wsX7_quotient wsX7_isQuotientSure := goodIn_r _ [61, 5, 62, 7, 63, 64, 65, 54, 66, 56, 57, 67, 12, 68, 69, 70, 71, 72, 78, 79, 80, 81, 82, 83, 84, 85, 100, 101] (by decide +kernel) (by decide +kernel)
set_option maxRecDepth 20000 in
theorem gX7_quotient_X7_isQuotientSure : GoodIn wsX7_quotient (wsV RX7 208 RX7 yX7_isQuotientSure wsX7_isQuotientSure) := goodIn_app (goodIn_of _ (by decide +kernel)) ggX7_quotient_X7_isQuotientSure
set_option maxRecDepth 20000 in
theorem ggX7_quotient_X1_turnOver : GoodIn wsX7_quotient wsX1_turnOver := goodIn_r _ [76, 56, 57, 77, 64, 65, 54, 66, 67, 12, 68, 69, 70, 71, 72, 100, 101] (by decide +kernel) (by decide +kernel)
set_option maxRecDepth 20000 in
theorem gX7_quotient_X1_turnOver : GoodIn wsX7_quotient (wsV RX7 212 RX1 yX1_turnOver wsX1_turnOver) := goodIn_app (goodIn_of _ (by decide +kernel)) ggX7_quotient_X1_turnOver
set_option maxRecDepth 20000 in
theorem ggX7_quotient_X1_whole : GoodIn wsX7_quotient wsX1_whole := goodIn_r _ [66, 56, 57, 67, 12, 68, 69, 70, 71, 72, 100, 101] (by decide +kernel) (by decide +kernel)
set_option maxRecDepth 20000 in
theorem gX7_quotient_X1_whole : GoodIn wsX7_quotient (wsV RX7 217 RX1 yX1_whole wsX1_whole) := goodIn_app (goodIn_of _ (by decide +kernel)) ggX7_quotient_X1_whole
theorem dX7_quotient_0 : decode cX7_quotient 0 = .ok (.aload_n 0, 1) := by decide +kernel
theorem dX7_quotient_1 : decode cX7_quotient 1 = .ok (.iload_n 1, 1) := by decide +kernel
theorem dX7_quotient_2 : decode cX7_quotient 2 = .ok (.iload_n 2, 1) := by decide +kernel
theorem dX7_quotient_3 : decode cX7_quotient 3 = .ok (.invokevirtual 159, 3) := by decide +kernel
theorem dX7_quotient_6 : decode cX7_quotient 6 = .ok (.iload_n 3, 1) := by decide +kernel
theorem dX7_quotient_7 : decode cX7_quotient 7 = .ok (.iconst 0, 1) := by decide +kernel
theorem dX7_quotient_8 : decode cX7_quotient 8 = .ok (.bipush 24, 2) := by decide +kernel
theorem dX7_quotient_10 : decode cX7_quotient 10 = .ok (.invokestatic 51, 3) := by decide +kernel
theorem dX7_quotient_13 : decode cX7_quotient 13 = .ok (.aload_n 0, 1) := by decide +kernel
theorem dX7_quotient_14 : decode cX7_quotient 14 = .ok (.getfield 22, 3) := by decide +kernel
theorem dX7_quotient_17 : decode cX7_quotient 17 = .ok (.getfield 173, 3) := by decide +kernel
theorem dX7_quotient_20 : decode cX7_quotient 20 = .ok (.ifCond .ne 13, 3) := by decide +kernel
theorem dX7_quotient_23 : decode cX7_quotient 23 = .ok (.new 134, 3) := by decide +kernel
theorem dX7_quotient_26 : decode cX7_quotient 26 = .ok (.dup, 1) := by decide +kernel
theorem dX7_quotient_27 : decode cX7_quotient 27 = .ok (.ldc 205, 2) := by decide +kernel
theorem dX7_quotient_29 : decode cX7_quotient 29 = .ok (.invokespecial 138, 3) := by decide +kernel
theorem dX7_quotient_32 : decode cX7_quotient 32 = .ok (.athrow, 1) := by decide +kernel
theorem dX7_quotient_33 : decode cX7_quotient 33 = .ok (.aload_n 0, 1) := by decide +kernel
theorem dX7_quotient_34 : decode cX7_quotient 34 = .ok (.getfield 44, 3) := by decide +kernel
theorem dX7_quotient_37 : decode cX7_quotient 37 = .ok (.aload_n 0, 1) := by decide +kernel
theorem dX7_quotient_38 : decode cX7_quotient 38 = .ok (.getfield 22, 3) := by decide +kernel
theorem dX7_quotient_41 : decode cX7_quotient 41 = .ok (.getfield 181, 3) := by decide +kernel
theorem dX7_quotient_44 : decode cX7_quotient 44 = .ok (.iload_n 2, 1) := by decide +kernel
theorem dX7_quotient_45 : decode cX7_quotient 45 = .ok (.invokestatic 71, 3) := by decide +kernel
theorem dX7_quotient_48 : decode cX7_quotient 48 = .ok (.invokevirtual 207, 3) := by decide +kernel
theorem dX7_quotient_51 : decode cX7_quotient 51 = .ok (.aload_n 0, 1) := by decide +kernel
theorem dX7_quotient_52 : decode cX7_quotient 52 = .ok (.getfield 48, 3) := by decide +kernel
theorem dX7_quotient_55 : decode cX7_quotient 55 = .ok (.aload_n 0, 1) := by decide +kernel
theorem dX7_quotient_56 : decode cX7_quotient 56 = .ok (.getfield 22, 3) := by decide +kernel
theorem dX7_quotient_59 : decode cX7_quotient 59 = .ok (.getfield 177, 3) := by decide +kernel
theorem dX7_quotient_62 : decode cX7_quotient 62 = .ok (.iload_n 2, 1) := by decide +kernel
theorem dX7_quotient_63 : decode cX7_quotient 63 = .ok (.invokestatic 71, 3) := by decide +kernel
theorem dX7_quotient_66 : decode cX7_quotient 66 = .ok (.invokevirtual 207, 3) := by decide +kernel
theorem dX7_quotient_69 : decode cX7_quotient 69 = .ok (.iconst 0, 1) := by decide +kernel
theorem dX7_quotient_70 : decode cX7_quotient 70 = .ok (.istore 4, 2) := by decide +kernel
theorem dX7_quotient_72 : decode cX7_quotient 72 = .ok (.iload 4, 2) := by decide +kernel
theorem dX7_quotient_74 : decode cX7_quotient 74 = .ok (.iload_n 3, 1) := by decide +kernel
theorem dX7_quotient_75 : decode cX7_quotient 75 = .ok (.if_icmp .ge 30, 3) := by decide +kernel
theorem dX7_quotient_78 : decode cX7_quotient 78 = .ok (.aload_n 0, 1) := by decide +kernel
theorem dX7_quotient_79 : decode cX7_quotient 79 = .ok (.invokevirtual 208, 3) := by decide +kernel
theorem dX7_quotient_82 : decode cX7_quotient 82 = .ok (.ifCond .eq 23, 3) := by decide +kernel
theorem dX7_quotient_85 : decode cX7_quotient 85 = .ok (.aload_n 0, 1) := by decide +kernel
theorem dX7_quotient_86 : decode cX7_quotient 86 = .ok (.getfield 44, 3) := by decide +kernel
theorem dX7_quotient_89 : decode cX7_quotient 89 = .ok (.invokevirtual 212, 3) := by decide +kernel
theorem dX7_quotient_92 : decode cX7_quotient 92 = .ok (.aload_n 0, 1) := by decide +kernel
theorem dX7_quotient_93 : decode cX7_quotient 93 = .ok (.getfield 48, 3) := by decide +kernel
theorem dX7_quotient_96 : decode cX7_quotient 96 = .ok (.invokevirtual 212, 3) := by decide +kernel
theorem dX7_quotient_99 : decode cX7_quotient 99 = .ok (.iinc 4 1, 3) := by decide +kernel
theorem dX7_quotient_102 : decode cX7_quotient 102 = .ok (.goto (-30), 3) := by decide +kernel
theorem dX7_quotient_105 : decode cX7_quotient 105 = .ok (.aload_n 0, 1) := by decide +kernel
theorem dX7_quotient_106 : decode cX7_quotient 106 = .ok (.invokevirtual 208, 3) := by decide +kernel
theorem dX7_quotient_109 : decode cX7_quotient 109 = .ok (.ifCond .ne 13, 3) := by decide +kernel
theorem dX7_quotient_112 : decode cX7_quotient 112 = .ok (.new 134, 3) := by decide +kernel
theorem dX7_quotient_115 : decode cX7_quotient 115 = .ok (.dup, 1) := by decide +kernel
theorem dX7_quotient_116 : decode cX7_quotient 116 = .ok (.ldc 215, 2) := by decide +kernel
theorem dX7_quotient_118 : decode cX7_quotient 118 = .ok (.invokespecial 138, 3) := by decide +kernel
theorem dX7_quotient_121 : decode cX7_quotient 121 = .ok (.athrow, 1) := by decide +kernel
theorem dX7_quotient_122 : decode cX7_quotient 122 = .ok (.aload_n 0, 1) := by decide +kernel
theorem dX7_quotient_123 : decode cX7_quotient 123 = .ok (.getfield 44, 3) := by decide +kernel
theorem dX7_quotient_126 : decode cX7_quotient 126 = .ok (.invokevirtual 217, 3) := by decide +kernel
theorem dX7_quotient_129 : decode cX7_quotient 129 = .ok (.l2i, 1) := by decide +kernel
theorem dX7_quotient_130 : decode cX7_quotient 130 = .ok (.ireturn, 1) := by decide +kernel
set_option maxRecDepth 20000 in
theorem ggX7_next_X7_existing : GoodIn wsX7_next wsX7_existing := goodIn_ca (goodIn_r _ [10, 11, 12, 13, 14, 55, 56, 57, 58, 59, 60, 61, 62] (by decide +kernel) (by decide +kernel)) (goodIn_sub (fun _ h => List.mem_cons_of_mem _ (List.mem_append_right _ h)) (by decide +kernel))
set_option maxRecDepth 20000 in
theorem gX7_next_X7_existing : GoodIn wsX7_next (wsV RX7 148 RX7 yX7_existing wsX7_existing) := goodIn_app (goodIn_of _ (by decide +kernel)) ggX7_next_X7_existing
set_option maxRecDepth 20000 in
theorem ggX7_next_X7_digitAt : GoodIn wsX7_next wsX7_digitAt := goodIn_r _ [18, 19, 20, 21, 3, 22, 5, 23, 4, 24, 25, 26, 27, 28, 29, 30, 31, 32, 33, 34, 35, 36, 37, 38, 39, 40, 41, 42, 43, 44, 45, 9, 46, 47, 48, 49, 50, 51, 52, 53, 54, 55, 56, 57, 58, 59, 60, 61, 62, 63, 64, 65, 66, 67, 68] (by decide +kernel) (by decide +kernel)
set_option maxRecDepth 20000 in
theorem gX7_next_X7_digitAt : GoodIn wsX7_next (wsV RX7 225 RX7 yX7_digitAt wsX7_digitAt) := goodIn_app (goodIn_of _ (by decide +kernel)) ggX7_next_X7_digitAt
theorem dX7_next_0 : decode cX7_next 0 = .ok (.aload_n 0, 1) := by decide +kernel
theorem dX7_next_1 : decode cX7_next 1 = .ok (.iload_n 1, 1) := by decide +kernel
theorem dX7_next_2 : decode cX7_next 2 = .ok (.invokevirtual 148, 3) := by decide +kernel
theorem dX7_next_5 : decode cX7_next 5 = .ok (.astore_n 2, 1) := by decide +kernel
theorem dX7_next_6 : decode cX7_next 6 = .ok (.aload_n 2, 1) := by decide +kernel
theorem dX7_next_7 : decode cX7_next 7 = .ok (.getfield 220, 3) := by decide +kernel
theorem dX7_next_10 : decode cX7_next 10 = .ok (.bipush 24, 2) := by decide +kernel
theorem dX7_next_12 : decode cX7_next 12 = .ok (.if_icmp .lt 13, 3) := by decide +kernel
theorem dX7_next_15 : decode cX7_next 15 = .ok (.new 134, 3) := by decide +kernel
theorem dX7_next_18 : decode cX7_next 18 = .ok (.dup, 1) := by decide +kernel
theorem dX7_next_19 : decode cX7_next 19 = .ok (.ldc 223, 2) := by decide +kernel
theorem dX7_next_21 : decode cX7_next 21 = .ok (.invokespecial 138, 3) := by decide +kernel
theorem dX7_next_24 : decode cX7_next 24 = .ok (.athrow, 1) := by decide +kernel
theorem dX7_next_25 : decode cX7_next 25 = .ok (.aload_n 2, 1) := by decide +kernel
theorem dX7_next_26 : decode cX7_next 26 = .ok (.getfield 220, 3) := by decide +kernel
theorem dX7_next_29 : decode cX7_next 29 = .ok (.iconst 1, 1) := by decide +kernel
theorem dX7_next_30 : decode cX7_next 30 = .ok (.iadd, 1) := by decide +kernel
theorem dX7_next_31 : decode cX7_next 31 = .ok (.istore_n 3, 1) := by decide +kernel
theorem dX7_next_32 : decode cX7_next 32 = .ok (.iload_n 3, 1) := by decide +kernel
theorem dX7_next_33 : decode cX7_next 33 = .ok (.bipush 24, 2) := by decide +kernel
theorem dX7_next_35 : decode cX7_next 35 = .ok (.if_icmp .gt 52, 3) := by decide +kernel
theorem dX7_next_38 : decode cX7_next 38 = .ok (.aload_n 0, 1) := by decide +kernel
theorem dX7_next_39 : decode cX7_next 39 = .ok (.aload_n 2, 1) := by decide +kernel
theorem dX7_next_40 : decode cX7_next 40 = .ok (.iload_n 3, 1) := by decide +kernel
theorem dX7_next_41 : decode cX7_next 41 = .ok (.invokevirtual 225, 3) := by decide +kernel
theorem dX7_next_44 : decode cX7_next 44 = .ok (.istore 4, 2) := by decide +kernel
theorem dX7_next_46 : decode cX7_next 46 = .ok (.iload 4, 2) := by decide +kernel
theorem dX7_next_48 : decode cX7_next 48 = .ok (.iconst 2, 1) := by decide +kernel
theorem dX7_next_49 : decode cX7_next 49 = .ok (.if_icmp .eq 32, 3) := by decide +kernel
theorem dX7_next_52 : decode cX7_next 52 = .ok (.aload_n 2, 1) := by decide +kernel
theorem dX7_next_53 : decode cX7_next 53 = .ok (.dup, 1) := by decide +kernel
theorem dX7_next_54 : decode cX7_next 54 = .ok (.getfield 220, 3) := by decide +kernel
theorem dX7_next_57 : decode cX7_next 57 = .ok (.iconst 1, 1) := by decide +kernel
theorem dX7_next_58 : decode cX7_next 58 = .ok (.iadd, 1) := by decide +kernel
theorem dX7_next_59 : decode cX7_next 59 = .ok (.putfield 220, 3) := by decide +kernel
theorem dX7_next_62 : decode cX7_next 62 = .ok (.aload_n 2, 1) := by decide +kernel
theorem dX7_next_63 : decode cX7_next 63 = .ok (.ldc2_w 229, 3) := by decide +kernel
theorem dX7_next_66 : decode cX7_next 66 = .ok (.aload_n 2, 1) := by decide +kernel
theorem dX7_next_67 : decode cX7_next 67 = .ok (.getfield 231, 3) := by decide +kernel
theorem dX7_next_70 : decode cX7_next 70 = .ok (.lmul, 1) := by decide +kernel
theorem dX7_next_71 : decode cX7_next 71 = .ok (.iload 4, 2) := by decide +kernel
theorem dX7_next_73 : decode cX7_next 73 = .ok (.i2l, 1) := by decide +kernel
theorem dX7_next_74 : decode cX7_next 74 = .ok (.ladd, 1) := by decide +kernel
theorem dX7_next_75 : decode cX7_next 75 = .ok (.putfield 231, 3) := by decide +kernel
theorem dX7_next_78 : decode cX7_next 78 = .ok (.iload 4, 2) := by decide +kernel
theorem dX7_next_80 : decode cX7_next 80 = .ok (.ireturn, 1) := by decide +kernel
theorem dX7_next_81 : decode cX7_next 81 = .ok (.iinc 3 1, 3) := by decide +kernel
theorem dX7_next_84 : decode cX7_next 84 = .ok (.goto (-52), 3) := by decide +kernel
theorem dX7_next_87 : decode cX7_next 87 = .ok (.new 134, 3) := by decide +kernel
theorem dX7_next_90 : decode cX7_next 90 = .ok (.dup, 1) := by decide +kernel
theorem dX7_next_91 : decode cX7_next 91 = .ok (.ldc 234, 2) := by decide +kernel
theorem dX7_next_93 : decode cX7_next 93 = .ok (.invokespecial 138, 3) := by decide +kernel
theorem dX7_next_96 : decode cX7_next 96 = .ok (.athrow, 1) := by decide +kernel
set_option maxRecDepth 20000 in
theorem ggX7_emitted_X7_existing : GoodIn wsX7_emitted wsX7_existing := goodIn_ca (goodIn_r _ [6, 7, 8, 9, 10, 19, 20, 21, 22, 23, 24, 25, 26] (by decide +kernel) (by decide +kernel)) (goodIn_sub (fun _ h => List.mem_cons_of_mem _ (List.mem_append_right _ h)) (by decide +kernel))
set_option maxRecDepth 20000 in
theorem gX7_emitted_X7_existing : GoodIn wsX7_emitted (wsV RX7 148 RX7 yX7_existing wsX7_existing) := goodIn_app (goodIn_of _ (by decide +kernel)) ggX7_emitted_X7_existing
theorem dX7_emitted_0 : decode cX7_emitted 0 = .ok (.aload_n 0, 1) := by decide +kernel
theorem dX7_emitted_1 : decode cX7_emitted 1 = .ok (.iload_n 1, 1) := by decide +kernel
theorem dX7_emitted_2 : decode cX7_emitted 2 = .ok (.invokevirtual 148, 3) := by decide +kernel
theorem dX7_emitted_5 : decode cX7_emitted 5 = .ok (.getfield 220, 3) := by decide +kernel
theorem dX7_emitted_8 : decode cX7_emitted 8 = .ok (.ireturn, 1) := by decide +kernel
set_option maxRecDepth 20000 in
theorem ggX7_partial_X7_existing : GoodIn wsX7_partial wsX7_existing := goodIn_ca (goodIn_r _ [6, 7, 8, 9, 10, 19, 20, 21, 22, 23, 24, 25, 26] (by decide +kernel) (by decide +kernel)) (goodIn_sub (fun _ h => List.mem_cons_of_mem _ (List.mem_append_right _ h)) (by decide +kernel))
set_option maxRecDepth 20000 in
theorem gX7_partial_X7_existing : GoodIn wsX7_partial (wsV RX7 148 RX7 yX7_existing wsX7_existing) := goodIn_app (goodIn_of _ (by decide +kernel)) ggX7_partial_X7_existing
theorem dX7_partial_0 : decode cX7_partial 0 = .ok (.aload_n 0, 1) := by decide +kernel
theorem dX7_partial_1 : decode cX7_partial 1 = .ok (.iload_n 1, 1) := by decide +kernel
theorem dX7_partial_2 : decode cX7_partial 2 = .ok (.invokevirtual 148, 3) := by decide +kernel
theorem dX7_partial_5 : decode cX7_partial 5 = .ok (.getfield 231, 3) := by decide +kernel
theorem dX7_partial_8 : decode cX7_partial 8 = .ok (.lreturn, 1) := by decide +kernel
set_option maxRecDepth 20000 in
theorem ggX7_restart_X7_existing : GoodIn wsX7_restart wsX7_existing := goodIn_ca (goodIn_r _ [7, 8, 9, 10, 11, 20, 21, 22, 23, 24, 25, 26, 27] (by decide +kernel) (by decide +kernel)) (goodIn_sub (fun _ h => List.mem_cons_of_mem _ (List.mem_append_right _ h)) (by decide +kernel))
set_option maxRecDepth 20000 in
theorem gX7_restart_X7_existing : GoodIn wsX7_restart (wsV RX7 148 RX7 yX7_existing wsX7_existing) := goodIn_app (goodIn_of _ (by decide +kernel)) ggX7_restart_X7_existing
theorem dX7_restart_0 : decode cX7_restart 0 = .ok (.aload_n 0, 1) := by decide +kernel
theorem dX7_restart_1 : decode cX7_restart 1 = .ok (.iload_n 1, 1) := by decide +kernel
theorem dX7_restart_2 : decode cX7_restart 2 = .ok (.invokevirtual 148, 3) := by decide +kernel
theorem dX7_restart_5 : decode cX7_restart 5 = .ok (.astore_n 2, 1) := by decide +kernel
theorem dX7_restart_6 : decode cX7_restart 6 = .ok (.aload_n 2, 1) := by decide +kernel
theorem dX7_restart_7 : decode cX7_restart 7 = .ok (.getfield 220, 3) := by decide +kernel
theorem dX7_restart_10 : decode cX7_restart 10 = .ok (.istore_n 3, 1) := by decide +kernel
theorem dX7_restart_11 : decode cX7_restart 11 = .ok (.aload_n 2, 1) := by decide +kernel
theorem dX7_restart_12 : decode cX7_restart 12 = .ok (.iconst 0, 1) := by decide +kernel
theorem dX7_restart_13 : decode cX7_restart 13 = .ok (.putfield 220, 3) := by decide +kernel
theorem dX7_restart_16 : decode cX7_restart 16 = .ok (.aload_n 2, 1) := by decide +kernel
theorem dX7_restart_17 : decode cX7_restart 17 = .ok (.lconst 0, 1) := by decide +kernel
theorem dX7_restart_18 : decode cX7_restart 18 = .ok (.putfield 231, 3) := by decide +kernel
theorem dX7_restart_21 : decode cX7_restart 21 = .ok (.iload_n 3, 1) := by decide +kernel
theorem dX7_restart_22 : decode cX7_restart 22 = .ok (.ireturn, 1) := by decide +kernel
theorem dX7_count_0 : decode cX7_count 0 = .ok (.aload_n 0, 1) := by decide +kernel
theorem dX7_count_1 : decode cX7_count 1 = .ok (.getfield 15, 3) := by decide +kernel
theorem dX7_count_4 : decode cX7_count 4 = .ok (.ireturn, 1) := by decide +kernel
set_option maxRecDepth 20000 in
theorem ggX7_needs_X7_existing : GoodIn wsX7_needs wsX7_existing := goodIn_ca (goodIn_r _ [6, 7, 8, 9, 10, 26, 27, 28, 29, 30, 31, 32, 33] (by decide +kernel) (by decide +kernel)) (goodIn_sub (fun _ h => List.mem_cons_of_mem _ (List.mem_append_right _ h)) (by decide +kernel))
set_option maxRecDepth 20000 in
theorem gX7_needs_X7_existing : GoodIn wsX7_needs (wsV RX7 148 RX7 yX7_existing wsX7_existing) := goodIn_app (goodIn_of _ (by decide +kernel)) ggX7_needs_X7_existing
set_option maxRecDepth 20000 in
theorem ggX7_needs_J13_bitCount_95d88 : GoodIn wsX7_needs wsJ13_bitCount_95d88 := goodIn_r _ [14, 15, 16, 17] (by decide +kernel) (by decide +kernel)
set_option maxRecDepth 20000 in
theorem gX7_needs_J13_bitCount_95d88 : GoodIn wsX7_needs (va_wsS RX7 239 yJ13_bitCount_95d88 wsJ13_bitCount_95d88) := goodIn_app (goodIn_of _ (by decide +kernel)) ggX7_needs_J13_bitCount_95d88
theorem dX7_needs_0 : decode cX7_needs 0 = .ok (.aload_n 0, 1) := by decide +kernel
theorem dX7_needs_1 : decode cX7_needs 1 = .ok (.iload_n 1, 1) := by decide +kernel
theorem dX7_needs_2 : decode cX7_needs 2 = .ok (.invokevirtual 148, 3) := by decide +kernel
theorem dX7_needs_5 : decode cX7_needs 5 = .ok (.getfield 236, 3) := by decide +kernel
theorem dX7_needs_8 : decode cX7_needs 8 = .ok (.invokestatic 239, 3) := by decide +kernel
theorem dX7_needs_11 : decode cX7_needs 11 = .ok (.ireturn, 1) := by decide +kernel
theorem dX7_requireWithin_0 : decode cX7_requireWithin 0 = .ok (.iload_n 0, 1) := by decide +kernel
theorem dX7_requireWithin_1 : decode cX7_requireWithin 1 = .ok (.iload_n 1, 1) := by decide +kernel
theorem dX7_requireWithin_2 : decode cX7_requireWithin 2 = .ok (.if_icmp .lt 8, 3) := by decide +kernel
theorem dX7_requireWithin_5 : decode cX7_requireWithin 5 = .ok (.iload_n 0, 1) := by decide +kernel
theorem dX7_requireWithin_6 : decode cX7_requireWithin 6 = .ok (.iload_n 2, 1) := by decide +kernel
theorem dX7_requireWithin_7 : decode cX7_requireWithin 7 = .ok (.if_icmp .le 13, 3) := by decide +kernel
theorem dX7_requireWithin_10 : decode cX7_requireWithin 10 = .ok (.new 245, 3) := by decide +kernel
theorem dX7_requireWithin_13 : decode cX7_requireWithin 13 = .ok (.dup, 1) := by decide +kernel
theorem dX7_requireWithin_14 : decode cX7_requireWithin 14 = .ok (.ldc 247, 2) := by decide +kernel
theorem dX7_requireWithin_16 : decode cX7_requireWithin 16 = .ok (.invokespecial 249, 3) := by decide +kernel
theorem dX7_requireWithin_19 : decode cX7_requireWithin 19 = .ok (.athrow, 1) := by decide +kernel
theorem dX7_requireWithin_20 : decode cX7_requireWithin 20 = .ok (.return_, 1) := by decide +kernel
theorem dX7_requireRoom_0 : decode cX7_requireRoom 0 = .ok (.aload_n 0, 1) := by decide +kernel
theorem dX7_requireRoom_1 : decode cX7_requireRoom 1 = .ok (.getfield 15, 3) := by decide +kernel
theorem dX7_requireRoom_4 : decode cX7_requireRoom 4 = .ok (.aload_n 0, 1) := by decide +kernel
theorem dX7_requireRoom_5 : decode cX7_requireRoom 5 = .ok (.getfield 11, 3) := by decide +kernel
theorem dX7_requireRoom_8 : decode cX7_requireRoom 8 = .ok (.arraylength, 1) := by decide +kernel
theorem dX7_requireRoom_9 : decode cX7_requireRoom 9 = .ok (.if_icmp .lt 13, 3) := by decide +kernel
theorem dX7_requireRoom_12 : decode cX7_requireRoom 12 = .ok (.new 134, 3) := by decide +kernel
theorem dX7_requireRoom_15 : decode cX7_requireRoom 15 = .ok (.dup, 1) := by decide +kernel
theorem dX7_requireRoom_16 : decode cX7_requireRoom 16 = .ok (.ldc 250, 2) := by decide +kernel
theorem dX7_requireRoom_18 : decode cX7_requireRoom 18 = .ok (.invokespecial 138, 3) := by decide +kernel
theorem dX7_requireRoom_21 : decode cX7_requireRoom 21 = .ok (.athrow, 1) := by decide +kernel
theorem dX7_requireRoom_22 : decode cX7_requireRoom 22 = .ok (.return_, 1) := by decide +kernel
theorem dX7_existing_0 : decode cX7_existing 0 = .ok (.iload_n 1, 1) := by decide +kernel
theorem dX7_existing_1 : decode cX7_existing 1 = .ok (.ifCond .lt 20, 3) := by decide +kernel
theorem dX7_existing_4 : decode cX7_existing 4 = .ok (.iload_n 1, 1) := by decide +kernel
theorem dX7_existing_5 : decode cX7_existing 5 = .ok (.aload_n 0, 1) := by decide +kernel
theorem dX7_existing_6 : decode cX7_existing 6 = .ok (.getfield 15, 3) := by decide +kernel
theorem dX7_existing_9 : decode cX7_existing 9 = .ok (.if_icmp .ge 12, 3) := by decide +kernel
theorem dX7_existing_12 : decode cX7_existing 12 = .ok (.iload_n 1, 1) := by decide +kernel
theorem dX7_existing_13 : decode cX7_existing 13 = .ok (.aload_n 0, 1) := by decide +kernel
theorem dX7_existing_14 : decode cX7_existing 14 = .ok (.getfield 11, 3) := by decide +kernel
theorem dX7_existing_17 : decode cX7_existing 17 = .ok (.arraylength, 1) := by decide +kernel
theorem dX7_existing_18 : decode cX7_existing 18 = .ok (.if_icmp .lt 13, 3) := by decide +kernel
theorem dX7_existing_21 : decode cX7_existing 21 = .ok (.new 252, 3) := by decide +kernel
theorem dX7_existing_24 : decode cX7_existing 24 = .ok (.dup, 1) := by decide +kernel
theorem dX7_existing_25 : decode cX7_existing 25 = .ok (.ldc 254, 2) := by decide +kernel
theorem dX7_existing_27 : decode cX7_existing 27 = .ok (.invokespecial 256, 3) := by decide +kernel
theorem dX7_existing_30 : decode cX7_existing 30 = .ok (.athrow, 1) := by decide +kernel
theorem dX7_existing_31 : decode cX7_existing 31 = .ok (.aload_n 0, 1) := by decide +kernel
theorem dX7_existing_32 : decode cX7_existing 32 = .ok (.getfield 11, 3) := by decide +kernel
theorem dX7_existing_35 : decode cX7_existing 35 = .ok (.iload_n 1, 1) := by decide +kernel
theorem dX7_existing_36 : decode cX7_existing 36 = .ok (.aaload, 1) := by decide +kernel
theorem dX7_existing_37 : decode cX7_existing 37 = .ok (.astore_n 2, 1) := by decide +kernel
theorem dX7_existing_38 : decode cX7_existing 38 = .ok (.aload_n 2, 1) := by decide +kernel
theorem dX7_existing_39 : decode cX7_existing 39 = .ok (.ifnonnull 13, 3) := by decide +kernel
theorem dX7_existing_42 : decode cX7_existing 42 = .ok (.new 252, 3) := by decide +kernel
theorem dX7_existing_45 : decode cX7_existing 45 = .ok (.dup, 1) := by decide +kernel
theorem dX7_existing_46 : decode cX7_existing 46 = .ok (.ldc 254, 2) := by decide +kernel
theorem dX7_existing_48 : decode cX7_existing 48 = .ok (.invokespecial 256, 3) := by decide +kernel
theorem dX7_existing_51 : decode cX7_existing 51 = .ok (.athrow, 1) := by decide +kernel
theorem dX7_existing_52 : decode cX7_existing 52 = .ok (.aload_n 2, 1) := by decide +kernel
theorem dX7_existing_53 : decode cX7_existing 53 = .ok (.areturn, 1) := by decide +kernel
set_option maxRecDepth 20000 in
theorem ggX7_loadTold_X7_existing : GoodIn wsX7_loadTold wsX7_existing := goodIn_ca (goodIn_r _ [7, 8, 9, 10, 11, 45, 46, 47, 48, 49, 50, 51, 52] (by decide +kernel) (by decide +kernel)) (goodIn_sub (fun _ h => List.mem_cons_of_mem _ (List.mem_append_left _ (List.mem_append_right _ h))) (by decide +kernel))
set_option maxRecDepth 20000 in
theorem gX7_loadTold_X7_existing : GoodIn wsX7_loadTold (wsV RX7 148 RX7 yX7_existing wsX7_existing) := goodIn_app (goodIn_of _ (by decide +kernel)) ggX7_loadTold_X7_existing
set_option maxRecDepth 20000 in
theorem ggX7_loadTold_X7_requireWithin : GoodIn wsX7_loadTold wsX7_requireWithin := goodIn_ca (goodIn_r _ [14, 15, 16] (by decide +kernel) (by decide +kernel)) (goodIn_sub (fun _ h => List.mem_cons_of_mem _ (List.mem_append_right _ h)) (by decide +kernel))
set_option maxRecDepth 20000 in
theorem gX7_loadTold_X7_requireWithin : GoodIn wsX7_loadTold (va_wsS RX7 51 yX7_requireWithin wsX7_requireWithin) := goodIn_app (goodIn_of _ (by decide +kernel)) ggX7_loadTold_X7_requireWithin
set_option maxRecDepth 20000 in
theorem ggX7_loadTold_X6_load : GoodIn wsX7_loadTold wsX6_load := goodIn_r _ [21, 22, 23, 24, 25, 26, 27, 28, 29, 30, 31, 32, 33, 34, 35, 36, 53, 54, 55, 56, 57, 58] (by decide +kernel) (by decide +kernel)
set_option maxRecDepth 20000 in
theorem gX7_loadTold_X6_load : GoodIn wsX7_loadTold (wsV RX7 152 RX6 yX6_load wsX6_load) := goodIn_app (goodIn_of _ (by decide +kernel)) ggX7_loadTold_X6_load
theorem dX7_loadTold_0 : decode cX7_loadTold 0 = .ok (.aload_n 0, 1) := by decide +kernel
theorem dX7_loadTold_1 : decode cX7_loadTold 1 = .ok (.iload_n 1, 1) := by decide +kernel
theorem dX7_loadTold_2 : decode cX7_loadTold 2 = .ok (.invokevirtual 148, 3) := by decide +kernel
theorem dX7_loadTold_5 : decode cX7_loadTold 5 = .ok (.astore_n 3, 1) := by decide +kernel
theorem dX7_loadTold_6 : decode cX7_loadTold 6 = .ok (.iload_n 2, 1) := by decide +kernel
theorem dX7_loadTold_7 : decode cX7_loadTold 7 = .ok (.iconst 0, 1) := by decide +kernel
theorem dX7_loadTold_8 : decode cX7_loadTold 8 = .ok (.bipush 24, 2) := by decide +kernel
theorem dX7_loadTold_10 : decode cX7_loadTold 10 = .ok (.invokestatic 51, 3) := by decide +kernel
theorem dX7_loadTold_13 : decode cX7_loadTold 13 = .ok (.aload_n 3, 1) := by decide +kernel
theorem dX7_loadTold_14 : decode cX7_loadTold 14 = .ok (.getfield 170, 3) := by decide +kernel
theorem dX7_loadTold_17 : decode cX7_loadTold 17 = .ok (.iload_n 2, 1) := by decide +kernel
theorem dX7_loadTold_18 : decode cX7_loadTold 18 = .ok (.aload_n 0, 1) := by decide +kernel
theorem dX7_loadTold_19 : decode cX7_loadTold 19 = .ok (.getfield 22, 3) := by decide +kernel
theorem dX7_loadTold_22 : decode cX7_loadTold 22 = .ok (.invokevirtual 152, 3) := by decide +kernel
theorem dX7_loadTold_25 : decode cX7_loadTold 25 = .ok (.return_, 1) := by decide +kernel
theorem dX7_endOfAnswer_0 : decode cX7_endOfAnswer 0 = .ok (.aload_n 0, 1) := by decide +kernel
theorem dX7_endOfAnswer_1 : decode cX7_endOfAnswer 1 = .ok (.getfield 22, 3) := by decide +kernel
theorem dX7_endOfAnswer_4 : decode cX7_endOfAnswer 4 = .ok (.getfield 173, 3) := by decide +kernel
theorem dX7_endOfAnswer_7 : decode cX7_endOfAnswer 7 = .ok (.ifCond .ne 14, 3) := by decide +kernel
theorem dX7_endOfAnswer_10 : decode cX7_endOfAnswer 10 = .ok (.new 134, 3) := by decide +kernel
theorem dX7_endOfAnswer_13 : decode cX7_endOfAnswer 13 = .ok (.dup, 1) := by decide +kernel
theorem dX7_endOfAnswer_14 : decode cX7_endOfAnswer 14 = .ok (.ldc_w 257, 3) := by decide +kernel
theorem dX7_endOfAnswer_17 : decode cX7_endOfAnswer 17 = .ok (.invokespecial 138, 3) := by decide +kernel
theorem dX7_endOfAnswer_20 : decode cX7_endOfAnswer 20 = .ok (.athrow, 1) := by decide +kernel
theorem dX7_endOfAnswer_21 : decode cX7_endOfAnswer 21 = .ok (.iload_n 1, 1) := by decide +kernel
theorem dX7_endOfAnswer_22 : decode cX7_endOfAnswer 22 = .ok (.ifCond .eq 13, 3) := by decide +kernel
theorem dX7_endOfAnswer_25 : decode cX7_endOfAnswer 25 = .ok (.aload_n 0, 1) := by decide +kernel
theorem dX7_endOfAnswer_26 : decode cX7_endOfAnswer 26 = .ok (.getfield 22, 3) := by decide +kernel
theorem dX7_endOfAnswer_29 : decode cX7_endOfAnswer 29 = .ok (.getfield 177, 3) := by decide +kernel
theorem dX7_endOfAnswer_32 : decode cX7_endOfAnswer 32 = .ok (.goto 10, 3) := by decide +kernel
theorem dX7_endOfAnswer_35 : decode cX7_endOfAnswer 35 = .ok (.aload_n 0, 1) := by decide +kernel
theorem dX7_endOfAnswer_36 : decode cX7_endOfAnswer 36 = .ok (.getfield 22, 3) := by decide +kernel
theorem dX7_endOfAnswer_39 : decode cX7_endOfAnswer 39 = .ok (.getfield 181, 3) := by decide +kernel
theorem dX7_endOfAnswer_42 : decode cX7_endOfAnswer 42 = .ok (.lreturn, 1) := by decide +kernel
theorem dX7_ownBit_0 : decode cX7_ownBit 0 = .ok (.lconst 1, 1) := by decide +kernel
theorem dX7_ownBit_1 : decode cX7_ownBit 1 = .ok (.aload_n 0, 1) := by decide +kernel
theorem dX7_ownBit_2 : decode cX7_ownBit 2 = .ok (.getfield 15, 3) := by decide +kernel
theorem dX7_ownBit_5 : decode cX7_ownBit 5 = .ok (.lshl, 1) := by decide +kernel
theorem dX7_ownBit_6 : decode cX7_ownBit 6 = .ok (.lreturn, 1) := by decide +kernel
set_option maxRecDepth 20000 in
theorem ggX7_make_X7_existing : GoodIn wsX7_make wsX7_existing := goodIn_ca (goodIn_r _ [13, 14, 15, 16, 17, 159, 160, 161, 162, 163, 164, 165, 166] (by decide +kernel) (by decide +kernel)) (goodIn_sub (fun _ h => List.mem_cons_of_mem _ (List.mem_append_left _ (List.mem_append_right _ h))) (by decide +kernel))
set_option maxRecDepth 20000 in
theorem gX7_make_X7_existing : GoodIn wsX7_make (wsV RX7 148 RX7 yX7_existing wsX7_existing) := goodIn_app (goodIn_of _ (by decide +kernel)) ggX7_make_X7_existing
set_option maxRecDepth 20000 in
theorem ggX7_make_X7_requireRoom : GoodIn wsX7_make wsX7_requireRoom := goodIn_ca (goodIn_r _ [21, 22, 23, 16, 17, 159, 160, 161, 162, 163, 164, 165, 166] (by decide +kernel) (by decide +kernel)) (goodIn_sub (fun _ h => List.mem_cons_of_mem _ (List.mem_append_right _ h)) (by decide +kernel))
set_option maxRecDepth 20000 in
theorem gX7_make_X7_requireRoom : GoodIn wsX7_make (wsV RX7 55 RX7 yX7_requireRoom wsX7_requireRoom) := goodIn_app (goodIn_of _ (by decide +kernel)) ggX7_make_X7_requireRoom
set_option maxRecDepth 20000 in
theorem ggX7_make_X7_ownBit : GoodIn wsX7_make wsX7_ownBit := goodIn_r _ [27, 16, 159, 160, 161, 162, 163, 164, 165, 166] (by decide +kernel) (by decide +kernel)
set_option maxRecDepth 20000 in
theorem gX7_make_X7_ownBit : GoodIn wsX7_make (wsV RX7 64 RX7 yX7_ownBit wsX7_ownBit) := goodIn_app (goodIn_of _ (by decide +kernel)) ggX7_make_X7_ownBit
set_option maxRecDepth 20000 in
theorem ggX7_make_X5_init : GoodIn wsX7_make wsX5_init := goodIn_r _ [30, 31, 32, 33, 34, 35, 36, 37, 38, 39, 40, 41, 42, 43, 44, 45, 46, 47, 48, 49, 50, 51, 52, 53, 151, 152, 153, 154, 155, 156, 157, 158, 167, 168, 169] (by decide +kernel) (by decide +kernel)
set_option maxRecDepth 20000 in
theorem gX7_make_X5_init : GoodIn wsX7_make (wsX5_init) := ggX7_make_X5_init
set_option maxRecDepth 20000 in
theorem ggX7_make_X6_load : GoodIn wsX7_make wsX6_load := goodIn_r _ [57, 52, 50, 53, 58, 59, 60, 61, 62, 63, 64, 65, 66, 67, 68, 69, 167, 168, 169, 170, 171, 172] (by decide +kernel) (by decide +kernel)
set_option maxRecDepth 20000 in
theorem gX7_make_X6_load : GoodIn wsX7_make (wsV RX7 152 RX6 yX6_load wsX6_load) := goodIn_app (goodIn_of _ (by decide +kernel)) ggX7_make_X6_load
set_option maxRecDepth 20000 in
theorem ggX7_make_X7_combine : GoodIn wsX7_make wsX7_combine := goodIn_r _ [73, 6, 74, 7, 8, 75, 76, 77, 78, 79, 80, 81, 82, 59, 60, 61, 62, 63, 64, 65, 83, 84, 85, 86, 87, 88, 89, 90, 67, 68, 69, 91, 92, 93, 94, 95, 96, 97, 98, 99, 12, 100, 101, 102, 103, 104, 105, 106, 107, 108, 109, 110, 111, 112, 113, 114, 115, 116, 117, 118, 119, 120, 121, 122, 123, 124, 125, 126, 127, 128, 129, 130, 131, 132, 133, 159, 160, 161, 162, 163, 164, 165, 166, 170, 171, 172] (by decide +kernel) (by decide +kernel)
set_option maxRecDepth 20000 in
theorem gX7_make_X7_combine : GoodIn wsX7_make (wsV RX7 259 RX7 yX7_combine wsX7_combine) := goodIn_app (goodIn_of _ (by decide +kernel)) ggX7_make_X7_combine
set_option maxRecDepth 20000 in
theorem ggX7_make_X6_put : GoodIn wsX7_make wsX6_put := goodIn_r _ [137, 52, 50, 138, 139, 53, 140, 167, 168, 169, 170, 171, 172] (by decide +kernel) (by decide +kernel)
set_option maxRecDepth 20000 in
theorem gX7_make_X6_put : GoodIn wsX7_make (wsV RX7 92 RX6 yX6_put wsX6_put) := goodIn_app (goodIn_of _ (by decide +kernel)) ggX7_make_X6_put
set_option maxRecDepth 20000 in
theorem ggX7_make_X7_add : GoodIn wsX7_make wsX7_add := goodIn_r _ [144, 8, 5, 6, 145, 16, 17, 82, 59, 60, 61, 62, 63, 64, 65, 54, 55, 56, 40, 57, 52, 50, 53, 58, 66, 67, 68, 69, 146, 147, 148, 149, 150, 98, 79, 80, 81, 95, 96, 97, 109, 134, 135, 136, 137, 138, 139, 140, 159, 160, 161, 162, 163, 164, 165, 166, 151, 152, 153, 154, 155, 156, 157, 158, 170, 171, 172, 167, 168, 169] (by decide +kernel) (by decide +kernel)
set_option maxRecDepth 20000 in
theorem gX7_make_X7_add : GoodIn wsX7_make (wsV RX7 96 RX7 yX7_add wsX7_add) := goodIn_app (goodIn_of _ (by decide +kernel)) ggX7_make_X7_add
theorem dX7_make_0 : decode cX7_make 0 = .ok (.aload_n 0, 1) := by decide +kernel
theorem dX7_make_1 : decode cX7_make 1 = .ok (.iload_n 2, 1) := by decide +kernel
theorem dX7_make_2 : decode cX7_make 2 = .ok (.invokevirtual 148, 3) := by decide +kernel
theorem dX7_make_5 : decode cX7_make 5 = .ok (.astore 4, 2) := by decide +kernel
theorem dX7_make_7 : decode cX7_make 7 = .ok (.aload_n 0, 1) := by decide +kernel
theorem dX7_make_8 : decode cX7_make 8 = .ok (.iload_n 3, 1) := by decide +kernel
theorem dX7_make_9 : decode cX7_make 9 = .ok (.invokevirtual 148, 3) := by decide +kernel
theorem dX7_make_12 : decode cX7_make 12 = .ok (.astore 5, 2) := by decide +kernel
theorem dX7_make_14 : decode cX7_make 14 = .ok (.aload_n 0, 1) := by decide +kernel
theorem dX7_make_15 : decode cX7_make 15 = .ok (.invokevirtual 55, 3) := by decide +kernel
theorem dX7_make_18 : decode cX7_make 18 = .ok (.new 9, 3) := by decide +kernel
theorem dX7_make_21 : decode cX7_make 21 = .ok (.dup, 1) := by decide +kernel
theorem dX7_make_22 : decode cX7_make 22 = .ok (.aload_n 1, 1) := by decide +kernel
theorem dX7_make_23 : decode cX7_make 23 = .ok (.iload_n 2, 1) := by decide +kernel
theorem dX7_make_24 : decode cX7_make 24 = .ok (.iload_n 3, 1) := by decide +kernel
theorem dX7_make_25 : decode cX7_make 25 = .ok (.aload 4, 2) := by decide +kernel
theorem dX7_make_27 : decode cX7_make 27 = .ok (.getfield 236, 3) := by decide +kernel
theorem dX7_make_30 : decode cX7_make 30 = .ok (.aload 5, 2) := by decide +kernel
theorem dX7_make_32 : decode cX7_make 32 = .ok (.getfield 236, 3) := by decide +kernel
theorem dX7_make_35 : decode cX7_make 35 = .ok (.lor, 1) := by decide +kernel
theorem dX7_make_36 : decode cX7_make 36 = .ok (.aload_n 0, 1) := by decide +kernel
theorem dX7_make_37 : decode cX7_make 37 = .ok (.invokevirtual 64, 3) := by decide +kernel
theorem dX7_make_40 : decode cX7_make 40 = .ok (.lor, 1) := by decide +kernel
theorem dX7_make_41 : decode cX7_make 41 = .ok (.invokespecial 68, 3) := by decide +kernel
theorem dX7_make_44 : decode cX7_make 44 = .ok (.astore 6, 2) := by decide +kernel
theorem dX7_make_46 : decode cX7_make 46 = .ok (.iconst 0, 1) := by decide +kernel
theorem dX7_make_47 : decode cX7_make 47 = .ok (.istore 7, 2) := by decide +kernel
theorem dX7_make_49 : decode cX7_make 49 = .ok (.iload 7, 2) := by decide +kernel
theorem dX7_make_51 : decode cX7_make 51 = .ok (.bipush 24, 2) := by decide +kernel
theorem dX7_make_53 : decode cX7_make 53 = .ok (.if_icmp .gt 58, 3) := by decide +kernel
theorem dX7_make_56 : decode cX7_make 56 = .ok (.aload 4, 2) := by decide +kernel
theorem dX7_make_58 : decode cX7_make 58 = .ok (.getfield 89, 3) := by decide +kernel
theorem dX7_make_61 : decode cX7_make 61 = .ok (.iload 7, 2) := by decide +kernel
theorem dX7_make_63 : decode cX7_make 63 = .ok (.aload_n 0, 1) := by decide +kernel
theorem dX7_make_64 : decode cX7_make 64 = .ok (.getfield 26, 3) := by decide +kernel
theorem dX7_make_67 : decode cX7_make 67 = .ok (.invokevirtual 152, 3) := by decide +kernel
theorem dX7_make_70 : decode cX7_make 70 = .ok (.aload 5, 2) := by decide +kernel
theorem dX7_make_72 : decode cX7_make 72 = .ok (.getfield 89, 3) := by decide +kernel
theorem dX7_make_75 : decode cX7_make 75 = .ok (.iload 7, 2) := by decide +kernel
theorem dX7_make_77 : decode cX7_make 77 = .ok (.aload_n 0, 1) := by decide +kernel
theorem dX7_make_78 : decode cX7_make 78 = .ok (.getfield 29, 3) := by decide +kernel
theorem dX7_make_81 : decode cX7_make 81 = .ok (.invokevirtual 152, 3) := by decide +kernel
theorem dX7_make_84 : decode cX7_make 84 = .ok (.aload_n 0, 1) := by decide +kernel
theorem dX7_make_85 : decode cX7_make 85 = .ok (.aload_n 1, 1) := by decide +kernel
theorem dX7_make_86 : decode cX7_make 86 = .ok (.iload 7, 2) := by decide +kernel
theorem dX7_make_88 : decode cX7_make 88 = .ok (.invokevirtual 259, 3) := by decide +kernel
theorem dX7_make_91 : decode cX7_make 91 = .ok (.aload 6, 2) := by decide +kernel
theorem dX7_make_93 : decode cX7_make 93 = .ok (.getfield 89, 3) := by decide +kernel
theorem dX7_make_96 : decode cX7_make 96 = .ok (.iload 7, 2) := by decide +kernel
theorem dX7_make_98 : decode cX7_make 98 = .ok (.aload_n 0, 1) := by decide +kernel
theorem dX7_make_99 : decode cX7_make 99 = .ok (.getfield 22, 3) := by decide +kernel
theorem dX7_make_102 : decode cX7_make 102 = .ok (.invokevirtual 92, 3) := by decide +kernel
theorem dX7_make_105 : decode cX7_make 105 = .ok (.iinc 7 1, 3) := by decide +kernel
theorem dX7_make_108 : decode cX7_make 108 = .ok (.goto (-59), 3) := by decide +kernel
theorem dX7_make_111 : decode cX7_make 111 = .ok (.aload_n 0, 1) := by decide +kernel
theorem dX7_make_112 : decode cX7_make 112 = .ok (.aload 6, 2) := by decide +kernel
theorem dX7_make_114 : decode cX7_make 114 = .ok (.invokevirtual 96, 3) := by decide +kernel
theorem dX7_make_117 : decode cX7_make 117 = .ok (.ireturn, 1) := by decide +kernel
set_option maxRecDepth 20000 in
theorem ggX7_add_X2_clear : GoodIn wsX7_add wsX2_clear := goodIn_r _ [11, 12, 13, 14, 64, 65, 66] (by decide +kernel) (by decide +kernel)
set_option maxRecDepth 20000 in
theorem gX7_add_X2_clear : GoodIn wsX7_add (wsV RX7 263 RX2 yX2_clear wsX2_clear) := goodIn_app (goodIn_of _ (by decide +kernel)) ggX7_add_X2_clear
set_option maxRecDepth 20000 in
theorem ggX7_add_X6_load : GoodIn wsX7_add wsX6_load := goodIn_r _ [19, 20, 21, 22, 23, 8, 9, 10, 11, 12, 13, 14, 24, 25, 26, 27, 67, 68, 69, 64, 65, 66] (by decide +kernel) (by decide +kernel)
set_option maxRecDepth 20000 in
theorem gX7_add_X6_load : GoodIn wsX7_add (wsV RX7 152 RX6 yX6_load wsX6_load) := goodIn_app (goodIn_of _ (by decide +kernel)) ggX7_add_X6_load
set_option maxRecDepth 20000 in
theorem ggX7_add_X2_narrow : GoodIn wsX7_add wsX2_narrow := goodIn_r _ [31, 12, 13, 14, 32, 33, 34, 35, 36, 37, 38, 39, 40, 25, 26, 10, 27, 64, 65, 66] (by decide +kernel) (by decide +kernel)
set_option maxRecDepth 20000 in
theorem gX7_add_X2_narrow : GoodIn wsX7_add (wsV RX7 266 RX2 yX2_narrow wsX2_narrow) := goodIn_app (goodIn_of _ (by decide +kernel)) ggX7_add_X2_narrow
set_option maxRecDepth 20000 in
theorem ggX7_add_X6_put : GoodIn wsX7_add wsX6_put := goodIn_r _ [44, 20, 21, 45, 46, 22, 47, 67, 68, 69, 64, 65, 66] (by decide +kernel) (by decide +kernel)
set_option maxRecDepth 20000 in
theorem gX7_add_X6_put : GoodIn wsX7_add (wsV RX7 92 RX6 yX6_put wsX6_put) := goodIn_app (goodIn_of _ (by decide +kernel)) ggX7_add_X6_put
theorem dX7_add_0 : decode cX7_add 0 = .ok (.aload_n 0, 1) := by decide +kernel
theorem dX7_add_1 : decode cX7_add 1 = .ok (.getfield 22, 3) := by decide +kernel
theorem dX7_add_4 : decode cX7_add 4 = .ok (.invokevirtual 263, 3) := by decide +kernel
theorem dX7_add_7 : decode cX7_add 7 = .ok (.iconst 0, 1) := by decide +kernel
theorem dX7_add_8 : decode cX7_add 8 = .ok (.istore_n 2, 1) := by decide +kernel
theorem dX7_add_9 : decode cX7_add 9 = .ok (.iload_n 2, 1) := by decide +kernel
theorem dX7_add_10 : decode cX7_add 10 = .ok (.bipush 24, 2) := by decide +kernel
theorem dX7_add_12 : decode cX7_add 12 = .ok (.if_icmp .gt 44, 3) := by decide +kernel
theorem dX7_add_15 : decode cX7_add 15 = .ok (.aload_n 1, 1) := by decide +kernel
theorem dX7_add_16 : decode cX7_add 16 = .ok (.getfield 89, 3) := by decide +kernel
theorem dX7_add_19 : decode cX7_add 19 = .ok (.iload_n 2, 1) := by decide +kernel
theorem dX7_add_20 : decode cX7_add 20 = .ok (.aload_n 0, 1) := by decide +kernel
theorem dX7_add_21 : decode cX7_add 21 = .ok (.getfield 26, 3) := by decide +kernel
theorem dX7_add_24 : decode cX7_add 24 = .ok (.invokevirtual 152, 3) := by decide +kernel
theorem dX7_add_27 : decode cX7_add 27 = .ok (.aload_n 0, 1) := by decide +kernel
theorem dX7_add_28 : decode cX7_add 28 = .ok (.getfield 22, 3) := by decide +kernel
theorem dX7_add_31 : decode cX7_add 31 = .ok (.aload_n 0, 1) := by decide +kernel
theorem dX7_add_32 : decode cX7_add 32 = .ok (.getfield 26, 3) := by decide +kernel
theorem dX7_add_35 : decode cX7_add 35 = .ok (.invokevirtual 266, 3) := by decide +kernel
theorem dX7_add_38 : decode cX7_add 38 = .ok (.aload_n 1, 1) := by decide +kernel
theorem dX7_add_39 : decode cX7_add 39 = .ok (.getfield 170, 3) := by decide +kernel
theorem dX7_add_42 : decode cX7_add 42 = .ok (.iload_n 2, 1) := by decide +kernel
theorem dX7_add_43 : decode cX7_add 43 = .ok (.aload_n 0, 1) := by decide +kernel
theorem dX7_add_44 : decode cX7_add 44 = .ok (.getfield 22, 3) := by decide +kernel
theorem dX7_add_47 : decode cX7_add 47 = .ok (.invokevirtual 92, 3) := by decide +kernel
theorem dX7_add_50 : decode cX7_add 50 = .ok (.iinc 2 1, 3) := by decide +kernel
theorem dX7_add_53 : decode cX7_add 53 = .ok (.goto (-44), 3) := by decide +kernel
theorem dX7_add_56 : decode cX7_add 56 = .ok (.aload_n 0, 1) := by decide +kernel
theorem dX7_add_57 : decode cX7_add 57 = .ok (.getfield 15, 3) := by decide +kernel
theorem dX7_add_60 : decode cX7_add 60 = .ok (.istore_n 2, 1) := by decide +kernel
theorem dX7_add_61 : decode cX7_add 61 = .ok (.iload_n 2, 1) := by decide +kernel
theorem dX7_add_62 : decode cX7_add 62 = .ok (.ifCond .lt 29, 3) := by decide +kernel
theorem dX7_add_65 : decode cX7_add 65 = .ok (.iload_n 2, 1) := by decide +kernel
theorem dX7_add_66 : decode cX7_add 66 = .ok (.aload_n 0, 1) := by decide +kernel
theorem dX7_add_67 : decode cX7_add 67 = .ok (.getfield 11, 3) := by decide +kernel
theorem dX7_add_70 : decode cX7_add 70 = .ok (.arraylength, 1) := by decide +kernel
theorem dX7_add_71 : decode cX7_add 71 = .ok (.if_icmp .ge 20, 3) := by decide +kernel
theorem dX7_add_74 : decode cX7_add 74 = .ok (.aload_n 0, 1) := by decide +kernel
theorem dX7_add_75 : decode cX7_add 75 = .ok (.getfield 11, 3) := by decide +kernel
theorem dX7_add_78 : decode cX7_add 78 = .ok (.iload_n 2, 1) := by decide +kernel
theorem dX7_add_79 : decode cX7_add 79 = .ok (.aload_n 1, 1) := by decide +kernel
theorem dX7_add_80 : decode cX7_add 80 = .ok (.aastore, 1) := by decide +kernel
theorem dX7_add_81 : decode cX7_add 81 = .ok (.aload_n 0, 1) := by decide +kernel
theorem dX7_add_82 : decode cX7_add 82 = .ok (.dup, 1) := by decide +kernel
theorem dX7_add_83 : decode cX7_add 83 = .ok (.getfield 15, 3) := by decide +kernel
theorem dX7_add_86 : decode cX7_add 86 = .ok (.iconst 1, 1) := by decide +kernel
theorem dX7_add_87 : decode cX7_add 87 = .ok (.iadd, 1) := by decide +kernel
theorem dX7_add_88 : decode cX7_add 88 = .ok (.putfield 15, 3) := by decide +kernel
theorem dX7_add_91 : decode cX7_add 91 = .ok (.iload_n 2, 1) := by decide +kernel
theorem dX7_add_92 : decode cX7_add 92 = .ok (.ireturn, 1) := by decide +kernel
set_option maxRecDepth 20000 in
theorem ggX7_combine_X2_clear : GoodIn wsX7_combine wsX2_clear := goodIn_r _ [16, 17, 18, 19, 83, 84, 85] (by decide +kernel) (by decide +kernel)
set_option maxRecDepth 20000 in
theorem gX7_combine_X2_clear : GoodIn wsX7_combine (wsV RX7 263 RX2 yX2_clear wsX2_clear) := goodIn_app (goodIn_of _ (by decide +kernel)) ggX7_combine_X2_clear
set_option maxRecDepth 20000 in
theorem ggX7_combine_Jx29ce0_ordinal_8abf5 : GoodIn wsX7_combine wsJx29ce0_ordinal_8abf5 := goodIn_r _ [25, 26] (by decide +kernel) (by decide +kernel)
set_option maxRecDepth 20000 in
theorem gX7_combine_Jx29ce0_ordinal_8abf5_u276X3 : GoodIn wsX7_combine (va_wsU RX7 276 RX3 "java/lang/Enum" ⟨"Nestlimit$Kind", "ordinal", "()I"⟩ yJx29ce0_ordinal_8abf5 wsJx29ce0_ordinal_8abf5) := goodIn_app (goodIn_of _ (by decide +kernel)) ggX7_combine_Jx29ce0_ordinal_8abf5
set_option maxRecDepth 20000 in
theorem ggX7_combine_X2_assign : GoodIn wsX7_combine wsX2_assign := goodIn_r _ [30, 17, 18, 19, 83, 84, 85] (by decide +kernel) (by decide +kernel)
set_option maxRecDepth 20000 in
theorem gX7_combine_X2_assign : GoodIn wsX7_combine (wsV RX7 82 RX2 yX2_assign wsX2_assign) := goodIn_app (goodIn_of _ (by decide +kernel)) ggX7_combine_X2_assign
set_option maxRecDepth 20000 in
theorem ggX7_combine_X2_multiply : GoodIn wsX7_combine wsX2_multiply := goodIn_r _ [34, 18, 19, 35, 36, 10, 37, 38, 9, 11, 39, 40, 41, 42, 43, 44, 45, 46, 47, 48, 49, 50, 28, 29, 15, 30, 17, 83, 84, 85] (by decide +kernel) (by decide +kernel)
set_option maxRecDepth 20000 in
theorem gX7_combine_X2_multiply : GoodIn wsX7_combine (wsV RX7 280 RX2 yX2_multiply wsX2_multiply) := goodIn_app (goodIn_of _ (by decide +kernel)) ggX7_combine_X2_multiply
set_option maxRecDepth 20000 in
theorem ggX7_combine_X2_invert : GoodIn wsX7_combine wsX2_invert := goodIn_r _ [54, 18, 19, 55, 13, 14, 15, 16, 17, 39, 40, 41, 42, 43, 44, 45, 46, 47, 48, 49, 50, 28, 29, 30, 83, 84, 85] (by decide +kernel) (by decide +kernel)
set_option maxRecDepth 20000 in
theorem gX7_combine_X2_invert : GoodIn wsX7_combine (wsV RX7 287 RX2 yX2_invert wsX2_invert) := goodIn_app (goodIn_of _ (by decide +kernel)) ggX7_combine_X2_invert
set_option maxRecDepth 20000 in
theorem ggX7_combine_X2_takeRoot : GoodIn wsX7_combine wsX2_takeRoot := goodIn_r _ [59, 18, 38, 9, 10, 11, 19, 39, 40, 41, 60, 61, 62, 63, 64, 50, 28, 29, 15, 30, 17, 83, 84, 85] (by decide +kernel) (by decide +kernel)
set_option maxRecDepth 20000 in
theorem gX7_combine_X2_takeRoot : GoodIn wsX7_combine (wsV RX7 291 RX2 yX2_takeRoot wsX2_takeRoot) := goodIn_app (goodIn_of _ (by decide +kernel)) ggX7_combine_X2_takeRoot
set_option maxRecDepth 20000 in
theorem ggX7_combine_X2_takeExp : GoodIn wsX7_combine wsX2_takeExp := goodIn_r _ [68, 18, 19, 39, 40, 41, 55, 13, 14, 15, 16, 17, 50, 28, 29, 30, 69, 32, 33, 34, 35, 36, 10, 37, 38, 9, 11, 42, 43, 44, 45, 46, 47, 48, 49, 83, 84, 85] (by decide +kernel) (by decide +kernel)
set_option maxRecDepth 20000 in
theorem gX7_combine_X2_takeExp : GoodIn wsX7_combine (wsV RX7 294 RX2 yX2_takeExp wsX2_takeExp) := goodIn_app (goodIn_of _ (by decide +kernel)) ggX7_combine_X2_takeExp
set_option maxRecDepth 20000 in
theorem ggX7_combine_X2_dropBeyondReach : GoodIn wsX7_combine wsX2_dropBeyondReach := goodIn_r _ [73, 74, 18, 19, 39, 40, 41, 55, 13, 14, 15, 16, 17, 83, 84, 85] (by decide +kernel) (by decide +kernel)
set_option maxRecDepth 20000 in
theorem gX7_combine_X2_dropBeyondReach : GoodIn wsX7_combine (wsV RX7 86 RX2 yX2_dropBeyondReach wsX2_dropBeyondReach) := goodIn_app (goodIn_of _ (by decide +kernel)) ggX7_combine_X2_dropBeyondReach
theorem dX7_combine_0 : decode cX7_combine 0 = .ok (.aload_n 0, 1) := by decide +kernel
theorem dX7_combine_1 : decode cX7_combine 1 = .ok (.getfield 26, 3) := by decide +kernel
theorem dX7_combine_4 : decode cX7_combine 4 = .ok (.getfield 173, 3) := by decide +kernel
theorem dX7_combine_7 : decode cX7_combine 7 = .ok (.ifCond .eq 13, 3) := by decide +kernel
theorem dX7_combine_10 : decode cX7_combine 10 = .ok (.aload_n 0, 1) := by decide +kernel
theorem dX7_combine_11 : decode cX7_combine 11 = .ok (.getfield 29, 3) := by decide +kernel
theorem dX7_combine_14 : decode cX7_combine 14 = .ok (.getfield 173, 3) := by decide +kernel
theorem dX7_combine_17 : decode cX7_combine 17 = .ok (.ifCond .ne 11, 3) := by decide +kernel
theorem dX7_combine_20 : decode cX7_combine 20 = .ok (.aload_n 0, 1) := by decide +kernel
theorem dX7_combine_21 : decode cX7_combine 21 = .ok (.getfield 22, 3) := by decide +kernel
theorem dX7_combine_24 : decode cX7_combine 24 = .ok (.invokevirtual 263, 3) := by decide +kernel
theorem dX7_combine_27 : decode cX7_combine 27 = .ok (.return_, 1) := by decide +kernel
theorem dX7_combine_28 : decode cX7_combine 28 = .ok (.getstatic 270, 3) := by decide +kernel
theorem dX7_combine_31 : decode cX7_combine 31 = .ok (.aload_n 1, 1) := by decide +kernel
theorem dX7_combine_32 : decode cX7_combine 32 = .ok (.invokevirtual 276, 3) := by decide +kernel
theorem dX7_combine_35 : decode cX7_combine 35 = .ok (.iaload, 1) := by decide +kernel
theorem dX7_combine_36 : decode cX7_combine 36 = .ok (.tableswitch 232 1 7 #[44, 84, 124, 143, 187, 202, 217], 44) := by decide +kernel
theorem dX7_combine_80 : decode cX7_combine 80 = .ok (.aload_n 0, 1) := by decide +kernel
theorem dX7_combine_81 : decode cX7_combine 81 = .ok (.getfield 22, 3) := by decide +kernel
theorem dX7_combine_84 : decode cX7_combine 84 = .ok (.aload_n 0, 1) := by decide +kernel
theorem dX7_combine_85 : decode cX7_combine 85 = .ok (.getfield 26, 3) := by decide +kernel
theorem dX7_combine_88 : decode cX7_combine 88 = .ok (.getfield 181, 3) := by decide +kernel
theorem dX7_combine_91 : decode cX7_combine 91 = .ok (.aload_n 0, 1) := by decide +kernel
theorem dX7_combine_92 : decode cX7_combine 92 = .ok (.getfield 29, 3) := by decide +kernel
theorem dX7_combine_95 : decode cX7_combine 95 = .ok (.getfield 181, 3) := by decide +kernel
theorem dX7_combine_98 : decode cX7_combine 98 = .ok (.ladd, 1) := by decide +kernel
theorem dX7_combine_99 : decode cX7_combine 99 = .ok (.aload_n 0, 1) := by decide +kernel
theorem dX7_combine_100 : decode cX7_combine 100 = .ok (.getfield 26, 3) := by decide +kernel
theorem dX7_combine_103 : decode cX7_combine 103 = .ok (.getfield 177, 3) := by decide +kernel
theorem dX7_combine_106 : decode cX7_combine 106 = .ok (.aload_n 0, 1) := by decide +kernel
theorem dX7_combine_107 : decode cX7_combine 107 = .ok (.getfield 29, 3) := by decide +kernel
theorem dX7_combine_110 : decode cX7_combine 110 = .ok (.getfield 177, 3) := by decide +kernel
theorem dX7_combine_113 : decode cX7_combine 113 = .ok (.ladd, 1) := by decide +kernel
theorem dX7_combine_114 : decode cX7_combine 114 = .ok (.invokevirtual 82, 3) := by decide +kernel
theorem dX7_combine_117 : decode cX7_combine 117 = .ok (.goto 158, 3) := by decide +kernel
theorem dX7_combine_120 : decode cX7_combine 120 = .ok (.aload_n 0, 1) := by decide +kernel
theorem dX7_combine_121 : decode cX7_combine 121 = .ok (.getfield 22, 3) := by decide +kernel
theorem dX7_combine_124 : decode cX7_combine 124 = .ok (.aload_n 0, 1) := by decide +kernel
theorem dX7_combine_125 : decode cX7_combine 125 = .ok (.getfield 26, 3) := by decide +kernel
theorem dX7_combine_128 : decode cX7_combine 128 = .ok (.getfield 181, 3) := by decide +kernel
theorem dX7_combine_131 : decode cX7_combine 131 = .ok (.aload_n 0, 1) := by decide +kernel
theorem dX7_combine_132 : decode cX7_combine 132 = .ok (.getfield 29, 3) := by decide +kernel
theorem dX7_combine_135 : decode cX7_combine 135 = .ok (.getfield 177, 3) := by decide +kernel
theorem dX7_combine_138 : decode cX7_combine 138 = .ok (.lsub, 1) := by decide +kernel
theorem dX7_combine_139 : decode cX7_combine 139 = .ok (.aload_n 0, 1) := by decide +kernel
theorem dX7_combine_140 : decode cX7_combine 140 = .ok (.getfield 26, 3) := by decide +kernel
theorem dX7_combine_143 : decode cX7_combine 143 = .ok (.getfield 177, 3) := by decide +kernel
theorem dX7_combine_146 : decode cX7_combine 146 = .ok (.aload_n 0, 1) := by decide +kernel
theorem dX7_combine_147 : decode cX7_combine 147 = .ok (.getfield 29, 3) := by decide +kernel
theorem dX7_combine_150 : decode cX7_combine 150 = .ok (.getfield 181, 3) := by decide +kernel
theorem dX7_combine_153 : decode cX7_combine 153 = .ok (.lsub, 1) := by decide +kernel
theorem dX7_combine_154 : decode cX7_combine 154 = .ok (.invokevirtual 82, 3) := by decide +kernel
theorem dX7_combine_157 : decode cX7_combine 157 = .ok (.goto 118, 3) := by decide +kernel
theorem dX7_combine_160 : decode cX7_combine 160 = .ok (.aload_n 0, 1) := by decide +kernel
theorem dX7_combine_161 : decode cX7_combine 161 = .ok (.getfield 22, 3) := by decide +kernel
theorem dX7_combine_164 : decode cX7_combine 164 = .ok (.aload_n 0, 1) := by decide +kernel
theorem dX7_combine_165 : decode cX7_combine 165 = .ok (.getfield 26, 3) := by decide +kernel
theorem dX7_combine_168 : decode cX7_combine 168 = .ok (.aload_n 0, 1) := by decide +kernel
theorem dX7_combine_169 : decode cX7_combine 169 = .ok (.getfield 29, 3) := by decide +kernel
theorem dX7_combine_172 : decode cX7_combine 172 = .ok (.iload_n 2, 1) := by decide +kernel
theorem dX7_combine_173 : decode cX7_combine 173 = .ok (.invokevirtual 280, 3) := by decide +kernel
theorem dX7_combine_176 : decode cX7_combine 176 = .ok (.goto 99, 3) := by decide +kernel
theorem dX7_combine_179 : decode cX7_combine 179 = .ok (.aload_n 0, 1) := by decide +kernel
theorem dX7_combine_180 : decode cX7_combine 180 = .ok (.getfield 22, 3) := by decide +kernel
theorem dX7_combine_183 : decode cX7_combine 183 = .ok (.aload_n 0, 1) := by decide +kernel
theorem dX7_combine_184 : decode cX7_combine 184 = .ok (.getfield 26, 3) := by decide +kernel
theorem dX7_combine_187 : decode cX7_combine 187 = .ok (.getfield 181, 3) := by decide +kernel
theorem dX7_combine_190 : decode cX7_combine 190 = .ok (.aload_n 0, 1) := by decide +kernel
theorem dX7_combine_191 : decode cX7_combine 191 = .ok (.getfield 29, 3) := by decide +kernel
theorem dX7_combine_194 : decode cX7_combine 194 = .ok (.getfield 181, 3) := by decide +kernel
theorem dX7_combine_197 : decode cX7_combine 197 = .ok (.invokestatic 284, 3) := by decide +kernel
theorem dX7_combine_200 : decode cX7_combine 200 = .ok (.aload_n 0, 1) := by decide +kernel
theorem dX7_combine_201 : decode cX7_combine 201 = .ok (.getfield 26, 3) := by decide +kernel
theorem dX7_combine_204 : decode cX7_combine 204 = .ok (.getfield 177, 3) := by decide +kernel
theorem dX7_combine_207 : decode cX7_combine 207 = .ok (.aload_n 0, 1) := by decide +kernel
theorem dX7_combine_208 : decode cX7_combine 208 = .ok (.getfield 29, 3) := by decide +kernel
theorem dX7_combine_211 : decode cX7_combine 211 = .ok (.getfield 177, 3) := by decide +kernel
theorem dX7_combine_214 : decode cX7_combine 214 = .ok (.invokestatic 284, 3) := by decide +kernel
theorem dX7_combine_217 : decode cX7_combine 217 = .ok (.invokevirtual 82, 3) := by decide +kernel
theorem dX7_combine_220 : decode cX7_combine 220 = .ok (.goto 55, 3) := by decide +kernel
theorem dX7_combine_223 : decode cX7_combine 223 = .ok (.aload_n 0, 1) := by decide +kernel
theorem dX7_combine_224 : decode cX7_combine 224 = .ok (.getfield 22, 3) := by decide +kernel
theorem dX7_combine_227 : decode cX7_combine 227 = .ok (.aload_n 0, 1) := by decide +kernel
theorem dX7_combine_228 : decode cX7_combine 228 = .ok (.getfield 26, 3) := by decide +kernel
theorem dX7_combine_231 : decode cX7_combine 231 = .ok (.iload_n 2, 1) := by decide +kernel
theorem dX7_combine_232 : decode cX7_combine 232 = .ok (.invokevirtual 287, 3) := by decide +kernel
theorem dX7_combine_235 : decode cX7_combine 235 = .ok (.goto 40, 3) := by decide +kernel
theorem dX7_combine_238 : decode cX7_combine 238 = .ok (.aload_n 0, 1) := by decide +kernel
theorem dX7_combine_239 : decode cX7_combine 239 = .ok (.getfield 22, 3) := by decide +kernel
theorem dX7_combine_242 : decode cX7_combine 242 = .ok (.aload_n 0, 1) := by decide +kernel
theorem dX7_combine_243 : decode cX7_combine 243 = .ok (.getfield 26, 3) := by decide +kernel
theorem dX7_combine_246 : decode cX7_combine 246 = .ok (.iload_n 2, 1) := by decide +kernel
theorem dX7_combine_247 : decode cX7_combine 247 = .ok (.invokevirtual 291, 3) := by decide +kernel
theorem dX7_combine_250 : decode cX7_combine 250 = .ok (.goto 25, 3) := by decide +kernel
theorem dX7_combine_253 : decode cX7_combine 253 = .ok (.aload_n 0, 1) := by decide +kernel
theorem dX7_combine_254 : decode cX7_combine 254 = .ok (.getfield 22, 3) := by decide +kernel
theorem dX7_combine_257 : decode cX7_combine 257 = .ok (.aload_n 0, 1) := by decide +kernel
theorem dX7_combine_258 : decode cX7_combine 258 = .ok (.getfield 26, 3) := by decide +kernel
theorem dX7_combine_261 : decode cX7_combine 261 = .ok (.iload_n 2, 1) := by decide +kernel
theorem dX7_combine_262 : decode cX7_combine 262 = .ok (.invokevirtual 294, 3) := by decide +kernel
theorem dX7_combine_265 : decode cX7_combine 265 = .ok (.goto 10, 3) := by decide +kernel
theorem dX7_combine_268 : decode cX7_combine 268 = .ok (.aload_n 0, 1) := by decide +kernel
theorem dX7_combine_269 : decode cX7_combine 269 = .ok (.getfield 22, 3) := by decide +kernel
theorem dX7_combine_272 : decode cX7_combine 272 = .ok (.invokevirtual 263, 3) := by decide +kernel
theorem dX7_combine_275 : decode cX7_combine 275 = .ok (.aload_n 0, 1) := by decide +kernel
theorem dX7_combine_276 : decode cX7_combine 276 = .ok (.getfield 22, 3) := by decide +kernel
theorem dX7_combine_279 : decode cX7_combine 279 = .ok (.iload_n 2, 1) := by decide +kernel
theorem dX7_combine_280 : decode cX7_combine 280 = .ok (.invokevirtual 86, 3) := by decide +kernel
theorem dX7_combine_283 : decode cX7_combine 283 = .ok (.return_, 1) := by decide +kernel
set_option maxRecDepth 20000 in
theorem ggX7_findZero_X7_unitsAt : GoodIn wsX7_findZero wsX7_unitsAt := goodIn_r _ [10] (by decide +kernel) (by decide +kernel)
set_option maxRecDepth 20000 in
theorem gX7_findZero_X7_unitsAt : GoodIn wsX7_findZero (va_wsS RX7 71 yX7_unitsAt wsX7_unitsAt) := goodIn_app (goodIn_of _ (by decide +kernel)) ggX7_findZero_X7_unitsAt
set_option maxRecDepth 20000 in
theorem ggX7_findZero_X4_signAt : GoodIn wsX7_findZero wsX4_signAt := goodIn_r _ [15, 16, 17, 18, 19, 8, 9, 10, 20, 21, 22, 23, 40, 41, 42, 43] (by decide +kernel) (by decide +kernel)
set_option maxRecDepth 20000 in
theorem gX7_findZero_X4_signAt : GoodIn wsX7_findZero (wsV RX7 130 RX4 yX4_signAt wsX4_signAt) := goodIn_app (goodIn_of _ (by decide +kernel)) ggX7_findZero_X4_signAt
set_option maxRecDepth 20000 in
theorem ggX7_findZero_X2_assign : GoodIn wsX7_findZero wsX2_assign := goodIn_r _ [28, 29, 30, 31, 44, 45, 46] (by decide +kernel) (by decide +kernel)
set_option maxRecDepth 20000 in
theorem gX7_findZero_X2_assign : GoodIn wsX7_findZero (wsV RX7 82 RX2 yX2_assign wsX2_assign) := goodIn_app (goodIn_of _ (by decide +kernel)) ggX7_findZero_X2_assign
theorem dX7_findZero_0 : decode cX7_findZero 0 = .ok (.iload 4, 2) := by decide +kernel
theorem dX7_findZero_2 : decode cX7_findZero 2 = .ok (.bipush 16, 2) := by decide +kernel
theorem dX7_findZero_4 : decode cX7_findZero 4 = .ok (.invokestatic 297, 3) := by decide +kernel
theorem dX7_findZero_7 : decode cX7_findZero 7 = .ok (.istore 5, 2) := by decide +kernel
theorem dX7_findZero_9 : decode cX7_findZero 9 = .ok (.iload_n 2, 1) := by decide +kernel
theorem dX7_findZero_10 : decode cX7_findZero 10 = .ok (.i2l, 1) := by decide +kernel
theorem dX7_findZero_11 : decode cX7_findZero 11 = .ok (.iload 5, 2) := by decide +kernel
theorem dX7_findZero_13 : decode cX7_findZero 13 = .ok (.invokestatic 71, 3) := by decide +kernel
theorem dX7_findZero_16 : decode cX7_findZero 16 = .ok (.lmul, 1) := by decide +kernel
theorem dX7_findZero_17 : decode cX7_findZero 17 = .ok (.lstore 6, 2) := by decide +kernel
theorem dX7_findZero_19 : decode cX7_findZero 19 = .ok (.lload 6, 2) := by decide +kernel
theorem dX7_findZero_21 : decode cX7_findZero 21 = .ok (.iload 5, 2) := by decide +kernel
theorem dX7_findZero_23 : decode cX7_findZero 23 = .ok (.invokestatic 71, 3) := by decide +kernel
theorem dX7_findZero_26 : decode cX7_findZero 26 = .ok (.iload_n 3, 1) := by decide +kernel
theorem dX7_findZero_27 : decode cX7_findZero 27 = .ok (.lshl, 1) := by decide +kernel
theorem dX7_findZero_28 : decode cX7_findZero 28 = .ok (.ladd, 1) := by decide +kernel
theorem dX7_findZero_29 : decode cX7_findZero 29 = .ok (.lstore 8, 2) := by decide +kernel
theorem dX7_findZero_31 : decode cX7_findZero 31 = .ok (.aload_n 1, 1) := by decide +kernel
theorem dX7_findZero_32 : decode cX7_findZero 32 = .ok (.lload 6, 2) := by decide +kernel
theorem dX7_findZero_34 : decode cX7_findZero 34 = .ok (.iload 5, 2) := by decide +kernel
theorem dX7_findZero_36 : decode cX7_findZero 36 = .ok (.invokevirtual 130, 3) := by decide +kernel
theorem dX7_findZero_39 : decode cX7_findZero 39 = .ok (.istore 10, 2) := by decide +kernel
theorem dX7_findZero_41 : decode cX7_findZero 41 = .ok (.iconst 0, 1) := by decide +kernel
theorem dX7_findZero_42 : decode cX7_findZero 42 = .ok (.istore 11, 2) := by decide +kernel
theorem dX7_findZero_44 : decode cX7_findZero 44 = .ok (.iload 11, 2) := by decide +kernel
theorem dX7_findZero_46 : decode cX7_findZero 46 = .ok (.iload 5, 2) := by decide +kernel
theorem dX7_findZero_48 : decode cX7_findZero 48 = .ok (.iload_n 3, 1) := by decide +kernel
theorem dX7_findZero_49 : decode cX7_findZero 49 = .ok (.iadd, 1) := by decide +kernel
theorem dX7_findZero_50 : decode cX7_findZero 50 = .ok (.if_icmp .ge 70, 3) := by decide +kernel
theorem dX7_findZero_53 : decode cX7_findZero 53 = .ok (.lload 8, 2) := by decide +kernel
theorem dX7_findZero_55 : decode cX7_findZero 55 = .ok (.lload 6, 2) := by decide +kernel
theorem dX7_findZero_57 : decode cX7_findZero 57 = .ok (.lsub, 1) := by decide +kernel
theorem dX7_findZero_58 : decode cX7_findZero 58 = .ok (.lconst 1, 1) := by decide +kernel
theorem dX7_findZero_59 : decode cX7_findZero 59 = .ok (.lcmp, 1) := by decide +kernel
theorem dX7_findZero_60 : decode cX7_findZero 60 = .ok (.ifCond .le 60, 3) := by decide +kernel
theorem dX7_findZero_63 : decode cX7_findZero 63 = .ok (.lload 6, 2) := by decide +kernel
theorem dX7_findZero_65 : decode cX7_findZero 65 = .ok (.lload 8, 2) := by decide +kernel
theorem dX7_findZero_67 : decode cX7_findZero 67 = .ok (.lload 6, 2) := by decide +kernel
theorem dX7_findZero_69 : decode cX7_findZero 69 = .ok (.lsub, 1) := by decide +kernel
theorem dX7_findZero_70 : decode cX7_findZero 70 = .ok (.ldc2_w 229, 3) := by decide +kernel
theorem dX7_findZero_73 : decode cX7_findZero 73 = .ok (.ldiv, 1) := by decide +kernel
theorem dX7_findZero_74 : decode cX7_findZero 74 = .ok (.ladd, 1) := by decide +kernel
theorem dX7_findZero_75 : decode cX7_findZero 75 = .ok (.lstore 12, 2) := by decide +kernel
theorem dX7_findZero_77 : decode cX7_findZero 77 = .ok (.aload_n 1, 1) := by decide +kernel
theorem dX7_findZero_78 : decode cX7_findZero 78 = .ok (.lload 12, 2) := by decide +kernel
theorem dX7_findZero_80 : decode cX7_findZero 80 = .ok (.iload 5, 2) := by decide +kernel
theorem dX7_findZero_82 : decode cX7_findZero 82 = .ok (.invokevirtual 130, 3) := by decide +kernel
theorem dX7_findZero_85 : decode cX7_findZero 85 = .ok (.istore 14, 2) := by decide +kernel
theorem dX7_findZero_87 : decode cX7_findZero 87 = .ok (.iload 14, 2) := by decide +kernel
theorem dX7_findZero_89 : decode cX7_findZero 89 = .ok (.ifCond .eq 10, 3) := by decide +kernel
theorem dX7_findZero_92 : decode cX7_findZero 92 = .ok (.iload 14, 2) := by decide +kernel
theorem dX7_findZero_94 : decode cX7_findZero 94 = .ok (.iload 10, 2) := by decide +kernel
theorem dX7_findZero_96 : decode cX7_findZero 96 = .ok (.if_icmp .ne 7, 3) := by decide +kernel
theorem dX7_findZero_99 : decode cX7_findZero 99 = .ok (.lload 12, 2) := by decide +kernel
theorem dX7_findZero_101 : decode cX7_findZero 101 = .ok (.lstore 6, 2) := by decide +kernel
theorem dX7_findZero_103 : decode cX7_findZero 103 = .ok (.iload 14, 2) := by decide +kernel
theorem dX7_findZero_105 : decode cX7_findZero 105 = .ok (.iload 10, 2) := by decide +kernel
theorem dX7_findZero_107 : decode cX7_findZero 107 = .ok (.if_icmp .eq 7, 3) := by decide +kernel
theorem dX7_findZero_110 : decode cX7_findZero 110 = .ok (.lload 12, 2) := by decide +kernel
theorem dX7_findZero_112 : decode cX7_findZero 112 = .ok (.lstore 8, 2) := by decide +kernel
theorem dX7_findZero_114 : decode cX7_findZero 114 = .ok (.iinc 11 1, 3) := by decide +kernel
theorem dX7_findZero_117 : decode cX7_findZero 117 = .ok (.goto (-73), 3) := by decide +kernel
theorem dX7_findZero_120 : decode cX7_findZero 120 = .ok (.iload 4, 2) := by decide +kernel
theorem dX7_findZero_122 : decode cX7_findZero 122 = .ok (.iload 5, 2) := by decide +kernel
theorem dX7_findZero_124 : decode cX7_findZero 124 = .ok (.isub, 1) := by decide +kernel
theorem dX7_findZero_125 : decode cX7_findZero 125 = .ok (.invokestatic 71, 3) := by decide +kernel
theorem dX7_findZero_128 : decode cX7_findZero 128 = .ok (.lstore 11, 2) := by decide +kernel
theorem dX7_findZero_130 : decode cX7_findZero 130 = .ok (.aload_n 0, 1) := by decide +kernel
theorem dX7_findZero_131 : decode cX7_findZero 131 = .ok (.getfield 22, 3) := by decide +kernel
theorem dX7_findZero_134 : decode cX7_findZero 134 = .ok (.lload 6, 2) := by decide +kernel
theorem dX7_findZero_136 : decode cX7_findZero 136 = .ok (.lload 11, 2) := by decide +kernel
theorem dX7_findZero_138 : decode cX7_findZero 138 = .ok (.lmul, 1) := by decide +kernel
theorem dX7_findZero_139 : decode cX7_findZero 139 = .ok (.lload 8, 2) := by decide +kernel
theorem dX7_findZero_141 : decode cX7_findZero 141 = .ok (.lload 11, 2) := by decide +kernel
theorem dX7_findZero_143 : decode cX7_findZero 143 = .ok (.lmul, 1) := by decide +kernel
theorem dX7_findZero_144 : decode cX7_findZero 144 = .ok (.invokevirtual 82, 3) := by decide +kernel
theorem dX7_findZero_147 : decode cX7_findZero 147 = .ok (.return_, 1) := by decide +kernel
set_option maxRecDepth 20000 in
theorem ggX7_suppose_X7_existing : GoodIn wsX7_suppose wsX7_existing := goodIn_ca (goodIn_r _ [12, 13, 14, 15, 16, 127, 128, 129, 130, 131, 132, 133, 134] (by decide +kernel) (by decide +kernel)) (goodIn_sub (fun _ h => List.mem_cons_of_mem _ (List.mem_append_right _ h)) (by decide +kernel))
set_option maxRecDepth 20000 in
theorem gX7_suppose_X7_existing : GoodIn wsX7_suppose (wsV RX7 148 RX7 yX7_existing wsX7_existing) := goodIn_app (goodIn_of _ (by decide +kernel)) ggX7_suppose_X7_existing
set_option maxRecDepth 20000 in
theorem ggX7_suppose_X5_isMadeOf : GoodIn wsX7_suppose wsX5_isMadeOf := goodIn_r _ [21, 22, 119, 120, 121, 122, 123, 124, 125, 126] (by decide +kernel) (by decide +kernel)
set_option maxRecDepth 20000 in
theorem gX7_suppose_X5_isMadeOf : GoodIn wsX7_suppose (wsV RX7 301 RX5 yX5_isMadeOf wsX5_isMadeOf) := goodIn_app (goodIn_of _ (by decide +kernel)) ggX7_suppose_X5_isMadeOf
set_option maxRecDepth 20000 in
theorem ggX7_suppose_X7_loadSupposed : GoodIn wsX7_suppose wsX7_loadSupposed := goodIn_ca (goodIn_r _ [26, 6, 27, 8, 9, 10, 11, 12, 13, 14, 15, 16, 17, 18, 19, 20, 21, 22, 28, 29, 30, 31, 32, 33, 34, 35, 36, 37, 38, 39, 40, 41, 42, 43, 44, 45, 46, 47, 127, 128, 129, 130, 131, 132, 133, 134, 119, 120, 121, 122, 123, 124, 125, 126, 135, 136, 137, 138, 139, 140] (by decide +kernel) (by decide +kernel)) (goodIn_sub (fun _ h => List.mem_cons_of_mem _ (List.mem_append_right _ h)) (by decide +kernel))
set_option maxRecDepth 20000 in
theorem gX7_suppose_X7_loadSupposed : GoodIn wsX7_suppose (wsV RX7 166 RX7 yX7_loadSupposed wsX7_loadSupposed) := goodIn_app (goodIn_of _ (by decide +kernel)) ggX7_suppose_X7_loadSupposed
set_option maxRecDepth 20000 in
theorem ggX7_suppose_X7_combine : GoodIn wsX7_suppose wsX7_combine := goodIn_r _ [51, 2, 52, 4, 7, 53, 54, 55, 56, 57, 58, 59, 60, 37, 38, 39, 40, 41, 42, 43, 61, 62, 63, 64, 65, 66, 67, 68, 45, 46, 47, 69, 70, 71, 72, 73, 74, 75, 76, 77, 11, 78, 79, 80, 81, 82, 83, 84, 85, 86, 87, 88, 89, 90, 91, 92, 93, 94, 95, 96, 97, 98, 99, 100, 101, 102, 103, 104, 105, 106, 107, 108, 109, 110, 111, 127, 128, 129, 130, 131, 132, 133, 134, 138, 139, 140] (by decide +kernel) (by decide +kernel)
set_option maxRecDepth 20000 in
theorem gX7_suppose_X7_combine : GoodIn wsX7_suppose (wsV RX7 259 RX7 yX7_combine wsX7_combine) := goodIn_app (goodIn_of _ (by decide +kernel)) ggX7_suppose_X7_combine
set_option maxRecDepth 20000 in
theorem ggX7_suppose_X6_put : GoodIn wsX7_suppose wsX6_put := goodIn_r _ [115, 33, 34, 116, 117, 35, 118, 135, 136, 137, 138, 139, 140] (by decide +kernel) (by decide +kernel)
set_option maxRecDepth 20000 in
theorem gX7_suppose_X6_put : GoodIn wsX7_suppose (wsV RX7 92 RX6 yX6_put wsX6_put) := goodIn_app (goodIn_of _ (by decide +kernel)) ggX7_suppose_X6_put
theorem dX7_suppose_0 : decode cX7_suppose 0 = .ok (.aload_n 0, 1) := by decide +kernel
theorem dX7_suppose_1 : decode cX7_suppose 1 = .ok (.iload_n 1, 1) := by decide +kernel
theorem dX7_suppose_2 : decode cX7_suppose 2 = .ok (.invokevirtual 148, 3) := by decide +kernel
theorem dX7_suppose_5 : decode cX7_suppose 5 = .ok (.astore 4, 2) := by decide +kernel
theorem dX7_suppose_7 : decode cX7_suppose 7 = .ok (.aload 4, 2) := by decide +kernel
theorem dX7_suppose_9 : decode cX7_suppose 9 = .ok (.iload_n 2, 1) := by decide +kernel
theorem dX7_suppose_10 : decode cX7_suppose 10 = .ok (.invokevirtual 301, 3) := by decide +kernel
theorem dX7_suppose_13 : decode cX7_suppose 13 = .ok (.ifCond .eq 55, 3) := by decide +kernel
theorem dX7_suppose_16 : decode cX7_suppose 16 = .ok (.aload_n 0, 1) := by decide +kernel
theorem dX7_suppose_17 : decode cX7_suppose 17 = .ok (.aload 4, 2) := by decide +kernel
theorem dX7_suppose_19 : decode cX7_suppose 19 = .ok (.getfield 305, 3) := by decide +kernel
theorem dX7_suppose_22 : decode cX7_suppose 22 = .ok (.iload_n 2, 1) := by decide +kernel
theorem dX7_suppose_23 : decode cX7_suppose 23 = .ok (.iload_n 3, 1) := by decide +kernel
theorem dX7_suppose_24 : decode cX7_suppose 24 = .ok (.aload_n 0, 1) := by decide +kernel
theorem dX7_suppose_25 : decode cX7_suppose 25 = .ok (.getfield 26, 3) := by decide +kernel
theorem dX7_suppose_28 : decode cX7_suppose 28 = .ok (.invokevirtual 166, 3) := by decide +kernel
theorem dX7_suppose_31 : decode cX7_suppose 31 = .ok (.aload_n 0, 1) := by decide +kernel
theorem dX7_suppose_32 : decode cX7_suppose 32 = .ok (.aload 4, 2) := by decide +kernel
theorem dX7_suppose_34 : decode cX7_suppose 34 = .ok (.getfield 308, 3) := by decide +kernel
theorem dX7_suppose_37 : decode cX7_suppose 37 = .ok (.iload_n 2, 1) := by decide +kernel
theorem dX7_suppose_38 : decode cX7_suppose 38 = .ok (.iload_n 3, 1) := by decide +kernel
theorem dX7_suppose_39 : decode cX7_suppose 39 = .ok (.aload_n 0, 1) := by decide +kernel
theorem dX7_suppose_40 : decode cX7_suppose 40 = .ok (.getfield 29, 3) := by decide +kernel
theorem dX7_suppose_43 : decode cX7_suppose 43 = .ok (.invokevirtual 166, 3) := by decide +kernel
theorem dX7_suppose_46 : decode cX7_suppose 46 = .ok (.aload_n 0, 1) := by decide +kernel
theorem dX7_suppose_47 : decode cX7_suppose 47 = .ok (.aload 4, 2) := by decide +kernel
theorem dX7_suppose_49 : decode cX7_suppose 49 = .ok (.getfield 311, 3) := by decide +kernel
theorem dX7_suppose_52 : decode cX7_suppose 52 = .ok (.iload_n 3, 1) := by decide +kernel
theorem dX7_suppose_53 : decode cX7_suppose 53 = .ok (.invokevirtual 259, 3) := by decide +kernel
theorem dX7_suppose_56 : decode cX7_suppose 56 = .ok (.aload_n 0, 1) := by decide +kernel
theorem dX7_suppose_57 : decode cX7_suppose 57 = .ok (.getfield 37, 3) := by decide +kernel
theorem dX7_suppose_60 : decode cX7_suppose 60 = .ok (.iload_n 1, 1) := by decide +kernel
theorem dX7_suppose_61 : decode cX7_suppose 61 = .ok (.aload_n 0, 1) := by decide +kernel
theorem dX7_suppose_62 : decode cX7_suppose 62 = .ok (.getfield 22, 3) := by decide +kernel
theorem dX7_suppose_65 : decode cX7_suppose 65 = .ok (.invokevirtual 92, 3) := by decide +kernel
theorem dX7_suppose_68 : decode cX7_suppose 68 = .ok (.return_, 1) := by decide +kernel
set_option maxRecDepth 20000 in
theorem ggX7_loadSupposed_X7_existing : GoodIn wsX7_loadSupposed wsX7_existing := goodIn_ca (goodIn_r _ [7, 8, 9, 10, 11, 38, 39, 40, 41, 42, 43, 44, 45] (by decide +kernel) (by decide +kernel)) (goodIn_sub (fun _ h => List.mem_cons_of_mem _ (List.mem_append_right _ h)) (by decide +kernel))
set_option maxRecDepth 20000 in
theorem gX7_loadSupposed_X7_existing : GoodIn wsX7_loadSupposed (wsV RX7 148 RX7 yX7_existing wsX7_existing) := goodIn_app (goodIn_of _ (by decide +kernel)) ggX7_loadSupposed_X7_existing
set_option maxRecDepth 20000 in
theorem ggX7_loadSupposed_X5_isMadeOf : GoodIn wsX7_loadSupposed wsX5_isMadeOf := goodIn_r _ [16, 17, 46, 47, 48, 49, 50, 51, 52, 53] (by decide +kernel) (by decide +kernel)
set_option maxRecDepth 20000 in
theorem gX7_loadSupposed_X5_isMadeOf : GoodIn wsX7_loadSupposed (wsV RX7 301 RX5 yX5_isMadeOf wsX5_isMadeOf) := goodIn_app (goodIn_of _ (by decide +kernel)) ggX7_loadSupposed_X5_isMadeOf
set_option maxRecDepth 20000 in
theorem ggX7_loadSupposed_X6_load : GoodIn wsX7_loadSupposed wsX6_load := goodIn_r _ [22, 23, 24, 25, 26, 27, 28, 29, 30, 31, 32, 33, 34, 35, 36, 37, 54, 55, 56, 57, 58, 59] (by decide +kernel) (by decide +kernel)
set_option maxRecDepth 20000 in
theorem gX7_loadSupposed_X6_load : GoodIn wsX7_loadSupposed (wsV RX7 152 RX6 yX6_load wsX6_load) := goodIn_app (goodIn_of _ (by decide +kernel)) ggX7_loadSupposed_X6_load
theorem dX7_loadSupposed_0 : decode cX7_loadSupposed 0 = .ok (.aload_n 0, 1) := by decide +kernel
theorem dX7_loadSupposed_1 : decode cX7_loadSupposed 1 = .ok (.iload_n 1, 1) := by decide +kernel
theorem dX7_loadSupposed_2 : decode cX7_loadSupposed 2 = .ok (.invokevirtual 148, 3) := by decide +kernel
theorem dX7_loadSupposed_5 : decode cX7_loadSupposed 5 = .ok (.astore 5, 2) := by decide +kernel
theorem dX7_loadSupposed_7 : decode cX7_loadSupposed 7 = .ok (.aload 5, 2) := by decide +kernel
theorem dX7_loadSupposed_9 : decode cX7_loadSupposed 9 = .ok (.iload_n 2, 1) := by decide +kernel
theorem dX7_loadSupposed_10 : decode cX7_loadSupposed 10 = .ok (.invokevirtual 301, 3) := by decide +kernel
theorem dX7_loadSupposed_13 : decode cX7_loadSupposed 13 = .ok (.ifCond .eq 16, 3) := by decide +kernel
theorem dX7_loadSupposed_16 : decode cX7_loadSupposed 16 = .ok (.aload_n 0, 1) := by decide +kernel
theorem dX7_loadSupposed_17 : decode cX7_loadSupposed 17 = .ok (.getfield 37, 3) := by decide +kernel
theorem dX7_loadSupposed_20 : decode cX7_loadSupposed 20 = .ok (.iload_n 1, 1) := by decide +kernel
theorem dX7_loadSupposed_21 : decode cX7_loadSupposed 21 = .ok (.aload 4, 2) := by decide +kernel
theorem dX7_loadSupposed_23 : decode cX7_loadSupposed 23 = .ok (.invokevirtual 152, 3) := by decide +kernel
theorem dX7_loadSupposed_26 : decode cX7_loadSupposed 26 = .ok (.goto 14, 3) := by decide +kernel
theorem dX7_loadSupposed_29 : decode cX7_loadSupposed 29 = .ok (.aload 5, 2) := by decide +kernel
theorem dX7_loadSupposed_31 : decode cX7_loadSupposed 31 = .ok (.getfield 89, 3) := by decide +kernel
theorem dX7_loadSupposed_34 : decode cX7_loadSupposed 34 = .ok (.iload_n 3, 1) := by decide +kernel
theorem dX7_loadSupposed_35 : decode cX7_loadSupposed 35 = .ok (.aload 4, 2) := by decide +kernel
theorem dX7_loadSupposed_37 : decode cX7_loadSupposed 37 = .ok (.invokevirtual 152, 3) := by decide +kernel
theorem dX7_loadSupposed_40 : decode cX7_loadSupposed 40 = .ok (.return_, 1) := by decide +kernel
set_option maxRecDepth 20000 in
theorem ggX7_compareAt_X6_load : GoodIn wsX7_compareAt wsX6_load := goodIn_r _ [11, 12, 13, 14, 15, 16, 17, 18, 19, 20, 21, 22, 23, 24, 25, 26, 46, 47, 48, 43, 44, 45] (by decide +kernel) (by decide +kernel)
set_option maxRecDepth 20000 in
theorem gX7_compareAt_X6_load : GoodIn wsX7_compareAt (wsV RX7 152 RX6 yX6_load wsX6_load) := goodIn_app (goodIn_of _ (by decide +kernel)) ggX7_compareAt_X6_load
theorem dX7_compareAt_0 : decode cX7_compareAt 0 = .ok (.aload_n 1, 1) := by decide +kernel
theorem dX7_compareAt_1 : decode cX7_compareAt 1 = .ok (.getfield 170, 3) := by decide +kernel
theorem dX7_compareAt_4 : decode cX7_compareAt 4 = .ok (.iload_n 3, 1) := by decide +kernel
theorem dX7_compareAt_5 : decode cX7_compareAt 5 = .ok (.aload_n 0, 1) := by decide +kernel
theorem dX7_compareAt_6 : decode cX7_compareAt 6 = .ok (.getfield 26, 3) := by decide +kernel
theorem dX7_compareAt_9 : decode cX7_compareAt 9 = .ok (.invokevirtual 152, 3) := by decide +kernel
theorem dX7_compareAt_12 : decode cX7_compareAt 12 = .ok (.aload_n 2, 1) := by decide +kernel
theorem dX7_compareAt_13 : decode cX7_compareAt 13 = .ok (.getfield 170, 3) := by decide +kernel
theorem dX7_compareAt_16 : decode cX7_compareAt 16 = .ok (.iload_n 3, 1) := by decide +kernel
theorem dX7_compareAt_17 : decode cX7_compareAt 17 = .ok (.aload_n 0, 1) := by decide +kernel
theorem dX7_compareAt_18 : decode cX7_compareAt 18 = .ok (.getfield 29, 3) := by decide +kernel
theorem dX7_compareAt_21 : decode cX7_compareAt 21 = .ok (.invokevirtual 152, 3) := by decide +kernel
theorem dX7_compareAt_24 : decode cX7_compareAt 24 = .ok (.aload_n 0, 1) := by decide +kernel
theorem dX7_compareAt_25 : decode cX7_compareAt 25 = .ok (.getfield 26, 3) := by decide +kernel
theorem dX7_compareAt_28 : decode cX7_compareAt 28 = .ok (.getfield 173, 3) := by decide +kernel
theorem dX7_compareAt_31 : decode cX7_compareAt 31 = .ok (.ifCond .eq 13, 3) := by decide +kernel
theorem dX7_compareAt_34 : decode cX7_compareAt 34 = .ok (.aload_n 0, 1) := by decide +kernel
theorem dX7_compareAt_35 : decode cX7_compareAt 35 = .ok (.getfield 29, 3) := by decide +kernel
theorem dX7_compareAt_38 : decode cX7_compareAt 38 = .ok (.getfield 173, 3) := by decide +kernel
theorem dX7_compareAt_41 : decode cX7_compareAt 41 = .ok (.ifCond .ne 5, 3) := by decide +kernel
theorem dX7_compareAt_44 : decode cX7_compareAt 44 = .ok (.iconst 0, 1) := by decide +kernel
theorem dX7_compareAt_45 : decode cX7_compareAt 45 = .ok (.ireturn, 1) := by decide +kernel
theorem dX7_compareAt_46 : decode cX7_compareAt 46 = .ok (.aload_n 0, 1) := by decide +kernel
theorem dX7_compareAt_47 : decode cX7_compareAt 47 = .ok (.getfield 26, 3) := by decide +kernel
theorem dX7_compareAt_50 : decode cX7_compareAt 50 = .ok (.getfield 177, 3) := by decide +kernel
theorem dX7_compareAt_53 : decode cX7_compareAt 53 = .ok (.aload_n 0, 1) := by decide +kernel
theorem dX7_compareAt_54 : decode cX7_compareAt 54 = .ok (.getfield 29, 3) := by decide +kernel
theorem dX7_compareAt_57 : decode cX7_compareAt 57 = .ok (.getfield 181, 3) := by decide +kernel
theorem dX7_compareAt_60 : decode cX7_compareAt 60 = .ok (.lcmp, 1) := by decide +kernel
theorem dX7_compareAt_61 : decode cX7_compareAt 61 = .ok (.ifCond .ge 5, 3) := by decide +kernel
theorem dX7_compareAt_64 : decode cX7_compareAt 64 = .ok (.iconst (-1), 1) := by decide +kernel
theorem dX7_compareAt_65 : decode cX7_compareAt 65 = .ok (.ireturn, 1) := by decide +kernel
theorem dX7_compareAt_66 : decode cX7_compareAt 66 = .ok (.aload_n 0, 1) := by decide +kernel
theorem dX7_compareAt_67 : decode cX7_compareAt 67 = .ok (.getfield 29, 3) := by decide +kernel
theorem dX7_compareAt_70 : decode cX7_compareAt 70 = .ok (.getfield 177, 3) := by decide +kernel
theorem dX7_compareAt_73 : decode cX7_compareAt 73 = .ok (.aload_n 0, 1) := by decide +kernel
theorem dX7_compareAt_74 : decode cX7_compareAt 74 = .ok (.getfield 26, 3) := by decide +kernel
theorem dX7_compareAt_77 : decode cX7_compareAt 77 = .ok (.getfield 181, 3) := by decide +kernel
theorem dX7_compareAt_80 : decode cX7_compareAt 80 = .ok (.lcmp, 1) := by decide +kernel
theorem dX7_compareAt_81 : decode cX7_compareAt 81 = .ok (.ifCond .ge 7, 3) := by decide +kernel
theorem dX7_compareAt_84 : decode cX7_compareAt 84 = .ok (.iconst 1, 1) := by decide +kernel
theorem dX7_compareAt_85 : decode cX7_compareAt 85 = .ok (.goto 4, 3) := by decide +kernel
theorem dX7_compareAt_88 : decode cX7_compareAt 88 = .ok (.iconst 0, 1) := by decide +kernel
theorem dX7_compareAt_89 : decode cX7_compareAt 89 = .ok (.ireturn, 1) := by decide +kernel
set_option maxRecDepth 20000 in
theorem ggX7_sureDecimals_X7_shifted : GoodIn wsX7_sureDecimals wsX7_shifted := goodIn_r _ [8, 9, 10, 11, 7, 12, 13, 14, 15, 16, 17, 18, 19] (by decide +kernel) (by decide +kernel)
set_option maxRecDepth 20000 in
theorem gX7_sureDecimals_X7_shifted : GoodIn wsX7_sureDecimals (va_wsS RX7 194 yX7_shifted wsX7_shifted) := goodIn_app (goodIn_of _ (by decide +kernel)) ggX7_sureDecimals_X7_shifted
theorem dX7_sureDecimals_0 : decode cX7_sureDecimals 0 = .ok (.iconst (-1), 1) := by decide +kernel
theorem dX7_sureDecimals_1 : decode cX7_sureDecimals 1 = .ok (.istore_n 2, 1) := by decide +kernel
theorem dX7_sureDecimals_2 : decode cX7_sureDecimals 2 = .ok (.aload_n 0, 1) := by decide +kernel
theorem dX7_sureDecimals_3 : decode cX7_sureDecimals 3 = .ok (.getfield 22, 3) := by decide +kernel
theorem dX7_sureDecimals_6 : decode cX7_sureDecimals 6 = .ok (.getfield 173, 3) := by decide +kernel
theorem dX7_sureDecimals_9 : decode cX7_sureDecimals 9 = .ok (.ifCond .ne 5, 3) := by decide +kernel
theorem dX7_sureDecimals_12 : decode cX7_sureDecimals 12 = .ok (.iload_n 2, 1) := by decide +kernel
theorem dX7_sureDecimals_13 : decode cX7_sureDecimals 13 = .ok (.ireturn, 1) := by decide +kernel
theorem dX7_sureDecimals_14 : decode cX7_sureDecimals 14 = .ok (.iconst 0, 1) := by decide +kernel
theorem dX7_sureDecimals_15 : decode cX7_sureDecimals 15 = .ok (.istore_n 3, 1) := by decide +kernel
theorem dX7_sureDecimals_16 : decode cX7_sureDecimals 16 = .ok (.iload_n 3, 1) := by decide +kernel
theorem dX7_sureDecimals_17 : decode cX7_sureDecimals 17 = .ok (.bipush 7, 2) := by decide +kernel
theorem dX7_sureDecimals_19 : decode cX7_sureDecimals 19 = .ok (.if_icmp .gt 41, 3) := by decide +kernel
theorem dX7_sureDecimals_22 : decode cX7_sureDecimals 22 = .ok (.aload_n 0, 1) := by decide +kernel
theorem dX7_sureDecimals_23 : decode cX7_sureDecimals 23 = .ok (.getfield 22, 3) := by decide +kernel
theorem dX7_sureDecimals_26 : decode cX7_sureDecimals 26 = .ok (.getfield 181, 3) := by decide +kernel
theorem dX7_sureDecimals_29 : decode cX7_sureDecimals 29 = .ok (.iload_n 3, 1) := by decide +kernel
theorem dX7_sureDecimals_30 : decode cX7_sureDecimals 30 = .ok (.iload_n 1, 1) := by decide +kernel
theorem dX7_sureDecimals_31 : decode cX7_sureDecimals 31 = .ok (.invokestatic 194, 3) := by decide +kernel
theorem dX7_sureDecimals_34 : decode cX7_sureDecimals 34 = .ok (.aload_n 0, 1) := by decide +kernel
theorem dX7_sureDecimals_35 : decode cX7_sureDecimals 35 = .ok (.getfield 22, 3) := by decide +kernel
theorem dX7_sureDecimals_38 : decode cX7_sureDecimals 38 = .ok (.getfield 177, 3) := by decide +kernel
theorem dX7_sureDecimals_41 : decode cX7_sureDecimals 41 = .ok (.iload_n 3, 1) := by decide +kernel
theorem dX7_sureDecimals_42 : decode cX7_sureDecimals 42 = .ok (.iload_n 1, 1) := by decide +kernel
theorem dX7_sureDecimals_43 : decode cX7_sureDecimals 43 = .ok (.invokestatic 194, 3) := by decide +kernel
theorem dX7_sureDecimals_46 : decode cX7_sureDecimals 46 = .ok (.lcmp, 1) := by decide +kernel
theorem dX7_sureDecimals_47 : decode cX7_sureDecimals 47 = .ok (.ifCond .eq 5, 3) := by decide +kernel
theorem dX7_sureDecimals_50 : decode cX7_sureDecimals 50 = .ok (.iload_n 2, 1) := by decide +kernel
theorem dX7_sureDecimals_51 : decode cX7_sureDecimals 51 = .ok (.ireturn, 1) := by decide +kernel
theorem dX7_sureDecimals_52 : decode cX7_sureDecimals 52 = .ok (.iload_n 3, 1) := by decide +kernel
theorem dX7_sureDecimals_53 : decode cX7_sureDecimals 53 = .ok (.istore_n 2, 1) := by decide +kernel
theorem dX7_sureDecimals_54 : decode cX7_sureDecimals 54 = .ok (.iinc 3 1, 3) := by decide +kernel
theorem dX7_sureDecimals_57 : decode cX7_sureDecimals 57 = .ok (.goto (-41), 3) := by decide +kernel
theorem dX7_sureDecimals_60 : decode cX7_sureDecimals 60 = .ok (.iload_n 2, 1) := by decide +kernel
theorem dX7_sureDecimals_61 : decode cX7_sureDecimals 61 = .ok (.ireturn, 1) := by decide +kernel
set_option maxRecDepth 20000 in
theorem ggX7_shifted_X7_unitsAt : GoodIn wsX7_shifted wsX7_unitsAt := goodIn_r _ [5] (by decide +kernel) (by decide +kernel)
set_option maxRecDepth 20000 in
theorem gX7_shifted_X7_unitsAt : GoodIn wsX7_shifted (va_wsS RX7 71 yX7_unitsAt wsX7_unitsAt) := goodIn_app (goodIn_of _ (by decide +kernel)) ggX7_shifted_X7_unitsAt
set_option maxRecDepth 20000 in
theorem ggX7_shifted_X7_cut : GoodIn wsX7_shifted wsX7_cut := goodIn_r _ [8, 9, 10, 11, 12] (by decide +kernel) (by decide +kernel)
set_option maxRecDepth 20000 in
theorem gX7_shifted_X7_cut : GoodIn wsX7_shifted (va_wsS RX7 75 yX7_cut wsX7_cut) := goodIn_app (goodIn_of _ (by decide +kernel)) ggX7_shifted_X7_cut
theorem dX7_shifted_0 : decode cX7_shifted 0 = .ok (.iload_n 2, 1) := by decide +kernel
theorem dX7_shifted_1 : decode cX7_shifted 1 = .ok (.ifCond .lt 19, 3) := by decide +kernel
theorem dX7_shifted_4 : decode cX7_shifted 4 = .ok (.iload_n 2, 1) := by decide +kernel
theorem dX7_shifted_5 : decode cX7_shifted 5 = .ok (.getstatic 314, 3) := by decide +kernel
theorem dX7_shifted_8 : decode cX7_shifted 8 = .ok (.arraylength, 1) := by decide +kernel
theorem dX7_shifted_9 : decode cX7_shifted 9 = .ok (.if_icmp .ge 11, 3) := by decide +kernel
theorem dX7_shifted_12 : decode cX7_shifted 12 = .ok (.getstatic 314, 3) := by decide +kernel
theorem dX7_shifted_15 : decode cX7_shifted 15 = .ok (.iload_n 2, 1) := by decide +kernel
theorem dX7_shifted_16 : decode cX7_shifted 16 = .ok (.laload, 1) := by decide +kernel
theorem dX7_shifted_17 : decode cX7_shifted 17 = .ok (.goto 4, 3) := by decide +kernel
theorem dX7_shifted_20 : decode cX7_shifted 20 = .ok (.lconst 1, 1) := by decide +kernel
theorem dX7_shifted_21 : decode cX7_shifted 21 = .ok (.lstore 4, 2) := by decide +kernel
theorem dX7_shifted_23 : decode cX7_shifted 23 = .ok (.lload_n 0, 1) := by decide +kernel
theorem dX7_shifted_24 : decode cX7_shifted 24 = .ok (.lload 4, 2) := by decide +kernel
theorem dX7_shifted_26 : decode cX7_shifted 26 = .ok (.lmul, 1) := by decide +kernel
theorem dX7_shifted_27 : decode cX7_shifted 27 = .ok (.iload_n 3, 1) := by decide +kernel
theorem dX7_shifted_28 : decode cX7_shifted 28 = .ok (.invokestatic 71, 3) := by decide +kernel
theorem dX7_shifted_31 : decode cX7_shifted 31 = .ok (.invokestatic 75, 3) := by decide +kernel
theorem dX7_shifted_34 : decode cX7_shifted 34 = .ok (.lreturn, 1) := by decide +kernel
set_option maxRecDepth 20000 in
theorem ggX7_isQuotientSure_X1_whole : GoodIn wsX7_isQuotientSure wsX1_whole := goodIn_r _ [8, 9, 10, 11, 12, 13, 14, 15, 16, 17, 26, 27] (by decide +kernel) (by decide +kernel)
set_option maxRecDepth 20000 in
theorem gX7_isQuotientSure_X1_whole : GoodIn wsX7_isQuotientSure (wsV RX7 217 RX1 yX1_whole wsX1_whole) := goodIn_app (goodIn_of _ (by decide +kernel)) ggX7_isQuotientSure_X1_whole
theorem dX7_isQuotientSure_0 : decode cX7_isQuotientSure 0 = .ok (.aload_n 0, 1) := by decide +kernel
theorem dX7_isQuotientSure_1 : decode cX7_isQuotientSure 1 = .ok (.getfield 44, 3) := by decide +kernel
theorem dX7_isQuotientSure_4 : decode cX7_isQuotientSure 4 = .ok (.getfield 318, 3) := by decide +kernel
theorem dX7_isQuotientSure_7 : decode cX7_isQuotientSure 7 = .ok (.lconst 0, 1) := by decide +kernel
theorem dX7_isQuotientSure_8 : decode cX7_isQuotientSure 8 = .ok (.lcmp, 1) := by decide +kernel
theorem dX7_isQuotientSure_9 : decode cX7_isQuotientSure 9 = .ok (.ifCond .eq 37, 3) := by decide +kernel
theorem dX7_isQuotientSure_12 : decode cX7_isQuotientSure 12 = .ok (.aload_n 0, 1) := by decide +kernel
theorem dX7_isQuotientSure_13 : decode cX7_isQuotientSure 13 = .ok (.getfield 48, 3) := by decide +kernel
theorem dX7_isQuotientSure_16 : decode cX7_isQuotientSure 16 = .ok (.getfield 318, 3) := by decide +kernel
theorem dX7_isQuotientSure_19 : decode cX7_isQuotientSure 19 = .ok (.lconst 0, 1) := by decide +kernel
theorem dX7_isQuotientSure_20 : decode cX7_isQuotientSure 20 = .ok (.lcmp, 1) := by decide +kernel
theorem dX7_isQuotientSure_21 : decode cX7_isQuotientSure 21 = .ok (.ifCond .eq 25, 3) := by decide +kernel
theorem dX7_isQuotientSure_24 : decode cX7_isQuotientSure 24 = .ok (.aload_n 0, 1) := by decide +kernel
theorem dX7_isQuotientSure_25 : decode cX7_isQuotientSure 25 = .ok (.getfield 44, 3) := by decide +kernel
theorem dX7_isQuotientSure_28 : decode cX7_isQuotientSure 28 = .ok (.invokevirtual 217, 3) := by decide +kernel
theorem dX7_isQuotientSure_31 : decode cX7_isQuotientSure 31 = .ok (.aload_n 0, 1) := by decide +kernel
theorem dX7_isQuotientSure_32 : decode cX7_isQuotientSure 32 = .ok (.getfield 48, 3) := by decide +kernel
theorem dX7_isQuotientSure_35 : decode cX7_isQuotientSure 35 = .ok (.invokevirtual 217, 3) := by decide +kernel
theorem dX7_isQuotientSure_38 : decode cX7_isQuotientSure 38 = .ok (.lcmp, 1) := by decide +kernel
theorem dX7_isQuotientSure_39 : decode cX7_isQuotientSure 39 = .ok (.ifCond .ne 7, 3) := by decide +kernel
theorem dX7_isQuotientSure_42 : decode cX7_isQuotientSure 42 = .ok (.iconst 1, 1) := by decide +kernel
theorem dX7_isQuotientSure_43 : decode cX7_isQuotientSure 43 = .ok (.goto 4, 3) := by decide +kernel
theorem dX7_isQuotientSure_46 : decode cX7_isQuotientSure 46 = .ok (.iconst 0, 1) := by decide +kernel
theorem dX7_isQuotientSure_47 : decode cX7_isQuotientSure 47 = .ok (.ireturn, 1) := by decide +kernel
set_option maxRecDepth 20000 in
theorem ggX7_digitAt_X6_load : GoodIn wsX7_digitAt wsX6_load := goodIn_r _ [13, 14, 15, 16, 17, 18, 19, 20, 21, 22, 23, 24, 25, 26, 27, 28, 52, 53, 54, 49, 50, 51] (by decide +kernel) (by decide +kernel)
set_option maxRecDepth 20000 in
theorem gX7_digitAt_X6_load : GoodIn wsX7_digitAt (wsV RX7 152 RX6 yX6_load wsX6_load) := goodIn_app (goodIn_of _ (by decide +kernel)) ggX7_digitAt_X6_load
set_option maxRecDepth 20000 in
theorem ggX7_digitAt_X7_unitsAt : GoodIn wsX7_digitAt wsX7_unitsAt := goodIn_r _ [32] (by decide +kernel) (by decide +kernel)
set_option maxRecDepth 20000 in
theorem gX7_digitAt_X7_unitsAt : GoodIn wsX7_digitAt (va_wsS RX7 71 yX7_unitsAt wsX7_unitsAt) := goodIn_app (goodIn_of _ (by decide +kernel)) ggX7_digitAt_X7_unitsAt
theorem dX7_digitAt_0 : decode cX7_digitAt 0 = .ok (.aload_n 1, 1) := by decide +kernel
theorem dX7_digitAt_1 : decode cX7_digitAt 1 = .ok (.getfield 170, 3) := by decide +kernel
theorem dX7_digitAt_4 : decode cX7_digitAt 4 = .ok (.iload_n 2, 1) := by decide +kernel
theorem dX7_digitAt_5 : decode cX7_digitAt 5 = .ok (.aload_n 0, 1) := by decide +kernel
theorem dX7_digitAt_6 : decode cX7_digitAt 6 = .ok (.getfield 22, 3) := by decide +kernel
theorem dX7_digitAt_9 : decode cX7_digitAt 9 = .ok (.invokevirtual 152, 3) := by decide +kernel
theorem dX7_digitAt_12 : decode cX7_digitAt 12 = .ok (.aload_n 0, 1) := by decide +kernel
theorem dX7_digitAt_13 : decode cX7_digitAt 13 = .ok (.getfield 22, 3) := by decide +kernel
theorem dX7_digitAt_16 : decode cX7_digitAt 16 = .ok (.getfield 173, 3) := by decide +kernel
theorem dX7_digitAt_19 : decode cX7_digitAt 19 = .ok (.ifCond .ne 5, 3) := by decide +kernel
theorem dX7_digitAt_22 : decode cX7_digitAt 22 = .ok (.iconst 2, 1) := by decide +kernel
theorem dX7_digitAt_23 : decode cX7_digitAt 23 = .ok (.ireturn, 1) := by decide +kernel
theorem dX7_digitAt_24 : decode cX7_digitAt 24 = .ok (.iload_n 2, 1) := by decide +kernel
theorem dX7_digitAt_25 : decode cX7_digitAt 25 = .ok (.aload_n 1, 1) := by decide +kernel
theorem dX7_digitAt_26 : decode cX7_digitAt 26 = .ok (.getfield 220, 3) := by decide +kernel
theorem dX7_digitAt_29 : decode cX7_digitAt 29 = .ok (.isub, 1) := by decide +kernel
theorem dX7_digitAt_30 : decode cX7_digitAt 30 = .ok (.invokestatic 71, 3) := by decide +kernel
theorem dX7_digitAt_33 : decode cX7_digitAt 33 = .ok (.lstore_n 3, 1) := by decide +kernel
theorem dX7_digitAt_34 : decode cX7_digitAt 34 = .ok (.aload_n 0, 1) := by decide +kernel
theorem dX7_digitAt_35 : decode cX7_digitAt 35 = .ok (.getfield 22, 3) := by decide +kernel
theorem dX7_digitAt_38 : decode cX7_digitAt 38 = .ok (.getfield 181, 3) := by decide +kernel
theorem dX7_digitAt_41 : decode cX7_digitAt 41 = .ok (.aload_n 1, 1) := by decide +kernel
theorem dX7_digitAt_42 : decode cX7_digitAt 42 = .ok (.getfield 231, 3) := by decide +kernel
theorem dX7_digitAt_45 : decode cX7_digitAt 45 = .ok (.lload_n 3, 1) := by decide +kernel
theorem dX7_digitAt_46 : decode cX7_digitAt 46 = .ok (.lmul, 1) := by decide +kernel
theorem dX7_digitAt_47 : decode cX7_digitAt 47 = .ok (.lsub, 1) := by decide +kernel
theorem dX7_digitAt_48 : decode cX7_digitAt 48 = .ok (.lstore 5, 2) := by decide +kernel
theorem dX7_digitAt_50 : decode cX7_digitAt 50 = .ok (.aload_n 0, 1) := by decide +kernel
theorem dX7_digitAt_51 : decode cX7_digitAt 51 = .ok (.getfield 22, 3) := by decide +kernel
theorem dX7_digitAt_54 : decode cX7_digitAt 54 = .ok (.getfield 177, 3) := by decide +kernel
theorem dX7_digitAt_57 : decode cX7_digitAt 57 = .ok (.aload_n 1, 1) := by decide +kernel
theorem dX7_digitAt_58 : decode cX7_digitAt 58 = .ok (.getfield 231, 3) := by decide +kernel
theorem dX7_digitAt_61 : decode cX7_digitAt 61 = .ok (.lload_n 3, 1) := by decide +kernel
theorem dX7_digitAt_62 : decode cX7_digitAt 62 = .ok (.lmul, 1) := by decide +kernel
theorem dX7_digitAt_63 : decode cX7_digitAt 63 = .ok (.lsub, 1) := by decide +kernel
theorem dX7_digitAt_64 : decode cX7_digitAt 64 = .ok (.lstore 7, 2) := by decide +kernel
theorem dX7_digitAt_66 : decode cX7_digitAt 66 = .ok (.aload_n 1, 1) := by decide +kernel
theorem dX7_digitAt_67 : decode cX7_digitAt 67 = .ok (.getfield 220, 3) := by decide +kernel
theorem dX7_digitAt_70 : decode cX7_digitAt 70 = .ok (.ifCond .ne 20, 3) := by decide +kernel
theorem dX7_digitAt_73 : decode cX7_digitAt 73 = .ok (.lload 5, 2) := by decide +kernel
theorem dX7_digitAt_75 : decode cX7_digitAt 75 = .ok (.lload_n 3, 1) := by decide +kernel
theorem dX7_digitAt_76 : decode cX7_digitAt 76 = .ok (.lneg, 1) := by decide +kernel
theorem dX7_digitAt_77 : decode cX7_digitAt 77 = .ok (.lcmp, 1) := by decide +kernel
theorem dX7_digitAt_78 : decode cX7_digitAt 78 = .ok (.ifCond .lt 10, 3) := by decide +kernel
theorem dX7_digitAt_81 : decode cX7_digitAt 81 = .ok (.lload 7, 2) := by decide +kernel
theorem dX7_digitAt_83 : decode cX7_digitAt 83 = .ok (.lload_n 3, 1) := by decide +kernel
theorem dX7_digitAt_84 : decode cX7_digitAt 84 = .ok (.lcmp, 1) := by decide +kernel
theorem dX7_digitAt_85 : decode cX7_digitAt 85 = .ok (.ifCond .le 5, 3) := by decide +kernel
theorem dX7_digitAt_88 : decode cX7_digitAt 88 = .ok (.iconst 2, 1) := by decide +kernel
theorem dX7_digitAt_89 : decode cX7_digitAt 89 = .ok (.ireturn, 1) := by decide +kernel
theorem dX7_digitAt_90 : decode cX7_digitAt 90 = .ok (.ldc2_w 229, 3) := by decide +kernel
theorem dX7_digitAt_93 : decode cX7_digitAt 93 = .ok (.lload 5, 2) := by decide +kernel
theorem dX7_digitAt_95 : decode cX7_digitAt 95 = .ok (.lmul, 1) := by decide +kernel
theorem dX7_digitAt_96 : decode cX7_digitAt 96 = .ok (.lload_n 3, 1) := by decide +kernel
theorem dX7_digitAt_97 : decode cX7_digitAt 97 = .ok (.lneg, 1) := by decide +kernel
theorem dX7_digitAt_98 : decode cX7_digitAt 98 = .ok (.lcmp, 1) := by decide +kernel
theorem dX7_digitAt_99 : decode cX7_digitAt 99 = .ok (.ifCond .lt 16, 3) := by decide +kernel
theorem dX7_digitAt_102 : decode cX7_digitAt 102 = .ok (.ldc2_w 229, 3) := by decide +kernel
theorem dX7_digitAt_105 : decode cX7_digitAt 105 = .ok (.lload 7, 2) := by decide +kernel
theorem dX7_digitAt_107 : decode cX7_digitAt 107 = .ok (.lmul, 1) := by decide +kernel
theorem dX7_digitAt_108 : decode cX7_digitAt 108 = .ok (.lload_n 3, 1) := by decide +kernel
theorem dX7_digitAt_109 : decode cX7_digitAt 109 = .ok (.lcmp, 1) := by decide +kernel
theorem dX7_digitAt_110 : decode cX7_digitAt 110 = .ok (.ifCond .gt 5, 3) := by decide +kernel
theorem dX7_digitAt_113 : decode cX7_digitAt 113 = .ok (.iconst 0, 1) := by decide +kernel
theorem dX7_digitAt_114 : decode cX7_digitAt 114 = .ok (.ireturn, 1) := by decide +kernel
theorem dX7_digitAt_115 : decode cX7_digitAt 115 = .ok (.lload 5, 2) := by decide +kernel
theorem dX7_digitAt_117 : decode cX7_digitAt 117 = .ok (.lconst 0, 1) := by decide +kernel
theorem dX7_digitAt_118 : decode cX7_digitAt 118 = .ok (.lcmp, 1) := by decide +kernel
theorem dX7_digitAt_119 : decode cX7_digitAt 119 = .ok (.ifCond .lt 5, 3) := by decide +kernel
theorem dX7_digitAt_122 : decode cX7_digitAt 122 = .ok (.iconst 1, 1) := by decide +kernel
theorem dX7_digitAt_123 : decode cX7_digitAt 123 = .ok (.ireturn, 1) := by decide +kernel
theorem dX7_digitAt_124 : decode cX7_digitAt 124 = .ok (.lload 7, 2) := by decide +kernel
theorem dX7_digitAt_126 : decode cX7_digitAt 126 = .ok (.lconst 0, 1) := by decide +kernel
theorem dX7_digitAt_127 : decode cX7_digitAt 127 = .ok (.lcmp, 1) := by decide +kernel
theorem dX7_digitAt_128 : decode cX7_digitAt 128 = .ok (.ifCond .gt 7, 3) := by decide +kernel
theorem dX7_digitAt_131 : decode cX7_digitAt 131 = .ok (.iconst (-1), 1) := by decide +kernel
theorem dX7_digitAt_132 : decode cX7_digitAt 132 = .ok (.goto 4, 3) := by decide +kernel
theorem dX7_digitAt_135 : decode cX7_digitAt 135 = .ok (.iconst 2, 1) := by decide +kernel
theorem dX7_digitAt_136 : decode cX7_digitAt 136 = .ok (.ireturn, 1) := by decide +kernel
theorem dX7_unitsAt_0 : decode cX7_unitsAt 0 = .ok (.lconst 1, 1) := by decide +kernel
theorem dX7_unitsAt_1 : decode cX7_unitsAt 1 = .ok (.iload_n 0, 1) := by decide +kernel
theorem dX7_unitsAt_2 : decode cX7_unitsAt 2 = .ok (.lshl, 1) := by decide +kernel
theorem dX7_unitsAt_3 : decode cX7_unitsAt 3 = .ok (.lreturn, 1) := by decide +kernel
set_option maxRecDepth 20000 in
theorem ggX7_cut_J9_floorDiv_f86c9 : GoodIn wsX7_cut wsJ9_floorDiv_f86c9 := goodIn_r _ [4] (by decide +kernel) (by decide +kernel)
set_option maxRecDepth 20000 in
theorem gX7_cut_J9_floorDiv_f86c9 : GoodIn wsX7_cut (va_wsS RX7 321 yJ9_floorDiv_f86c9 wsJ9_floorDiv_f86c9) := goodIn_app (goodIn_of _ (by decide +kernel)) ggX7_cut_J9_floorDiv_f86c9
theorem dX7_cut_0 : decode cX7_cut 0 = .ok (.lload_n 2, 1) := by decide +kernel
theorem dX7_cut_1 : decode cX7_cut 1 = .ok (.lconst 0, 1) := by decide +kernel
theorem dX7_cut_2 : decode cX7_cut 2 = .ok (.lcmp, 1) := by decide +kernel
theorem dX7_cut_3 : decode cX7_cut 3 = .ok (.ifCond .ne 7, 3) := by decide +kernel
theorem dX7_cut_6 : decode cX7_cut 6 = .ok (.lconst 0, 1) := by decide +kernel
theorem dX7_cut_7 : decode cX7_cut 7 = .ok (.goto 8, 3) := by decide +kernel
theorem dX7_cut_10 : decode cX7_cut 10 = .ok (.lload_n 0, 1) := by decide +kernel
theorem dX7_cut_11 : decode cX7_cut 11 = .ok (.lload_n 2, 1) := by decide +kernel
theorem dX7_cut_12 : decode cX7_cut 12 = .ok (.invokestatic 321, 3) := by decide +kernel
theorem dX7_cut_15 : decode cX7_cut 15 = .ok (.lreturn, 1) := by decide +kernel
set_option maxRecDepth 20000 in
theorem ggX7_fill_J9_floorDiv_f86c9 : GoodIn wsX7_fill wsJ9_floorDiv_f86c9 := goodIn_r _ [4] (by decide +kernel) (by decide +kernel)
set_option maxRecDepth 20000 in
theorem gX7_fill_J9_floorDiv_f86c9 : GoodIn wsX7_fill (va_wsS RX7 321 yJ9_floorDiv_f86c9 wsJ9_floorDiv_f86c9) := goodIn_app (goodIn_of _ (by decide +kernel)) ggX7_fill_J9_floorDiv_f86c9
theorem dX7_fill_0 : decode cX7_fill 0 = .ok (.lload_n 2, 1) := by decide +kernel
theorem dX7_fill_1 : decode cX7_fill 1 = .ok (.lconst 0, 1) := by decide +kernel
theorem dX7_fill_2 : decode cX7_fill 2 = .ok (.lcmp, 1) := by decide +kernel
theorem dX7_fill_3 : decode cX7_fill 3 = .ok (.ifCond .ne 7, 3) := by decide +kernel
theorem dX7_fill_6 : decode cX7_fill 6 = .ok (.lconst 0, 1) := by decide +kernel
theorem dX7_fill_7 : decode cX7_fill 7 = .ok (.goto 10, 3) := by decide +kernel
theorem dX7_fill_10 : decode cX7_fill 10 = .ok (.lload_n 0, 1) := by decide +kernel
theorem dX7_fill_11 : decode cX7_fill 11 = .ok (.lneg, 1) := by decide +kernel
theorem dX7_fill_12 : decode cX7_fill 12 = .ok (.lload_n 2, 1) := by decide +kernel
theorem dX7_fill_13 : decode cX7_fill 13 = .ok (.invokestatic 321, 3) := by decide +kernel
theorem dX7_fill_16 : decode cX7_fill 16 = .ok (.lneg, 1) := by decide +kernel
theorem dX7_fill_17 : decode cX7_fill 17 = .ok (.lreturn, 1) := by decide +kernel
theorem dX7_cutRoot_0 : decode cX7_cutRoot 0 = .ok (.lconst 0, 1) := by decide +kernel
theorem dX7_cutRoot_1 : decode cX7_cutRoot 1 = .ok (.lstore_n 2, 1) := by decide +kernel
theorem dX7_cutRoot_2 : decode cX7_cutRoot 2 = .ok (.bipush 30, 2) := by decide +kernel
theorem dX7_cutRoot_4 : decode cX7_cutRoot 4 = .ok (.istore 4, 2) := by decide +kernel
theorem dX7_cutRoot_6 : decode cX7_cutRoot 6 = .ok (.iload 4, 2) := by decide +kernel
theorem dX7_cutRoot_8 : decode cX7_cutRoot 8 = .ok (.ifCond .lt 30, 3) := by decide +kernel
theorem dX7_cutRoot_11 : decode cX7_cutRoot 11 = .ok (.lload_n 2, 1) := by decide +kernel
theorem dX7_cutRoot_12 : decode cX7_cutRoot 12 = .ok (.lconst 1, 1) := by decide +kernel
theorem dX7_cutRoot_13 : decode cX7_cutRoot 13 = .ok (.iload 4, 2) := by decide +kernel
theorem dX7_cutRoot_15 : decode cX7_cutRoot 15 = .ok (.lshl, 1) := by decide +kernel
theorem dX7_cutRoot_16 : decode cX7_cutRoot 16 = .ok (.ladd, 1) := by decide +kernel
theorem dX7_cutRoot_17 : decode cX7_cutRoot 17 = .ok (.lstore 5, 2) := by decide +kernel
theorem dX7_cutRoot_19 : decode cX7_cutRoot 19 = .ok (.lload 5, 2) := by decide +kernel
theorem dX7_cutRoot_21 : decode cX7_cutRoot 21 = .ok (.lload 5, 2) := by decide +kernel
theorem dX7_cutRoot_23 : decode cX7_cutRoot 23 = .ok (.lmul, 1) := by decide +kernel
theorem dX7_cutRoot_24 : decode cX7_cutRoot 24 = .ok (.lload_n 0, 1) := by decide +kernel
theorem dX7_cutRoot_25 : decode cX7_cutRoot 25 = .ok (.lcmp, 1) := by decide +kernel
theorem dX7_cutRoot_26 : decode cX7_cutRoot 26 = .ok (.ifCond .gt 6, 3) := by decide +kernel
theorem dX7_cutRoot_29 : decode cX7_cutRoot 29 = .ok (.lload 5, 2) := by decide +kernel
theorem dX7_cutRoot_31 : decode cX7_cutRoot 31 = .ok (.lstore_n 2, 1) := by decide +kernel
theorem dX7_cutRoot_32 : decode cX7_cutRoot 32 = .ok (.iinc 4 (-1), 3) := by decide +kernel
theorem dX7_cutRoot_35 : decode cX7_cutRoot 35 = .ok (.goto (-29), 3) := by decide +kernel
theorem dX7_cutRoot_38 : decode cX7_cutRoot 38 = .ok (.lload_n 2, 1) := by decide +kernel
theorem dX7_cutRoot_39 : decode cX7_cutRoot 39 = .ok (.lreturn, 1) := by decide +kernel
set_option maxRecDepth 20000 in
theorem ggX7_fillRoot_X7_cutRoot : GoodIn wsX7_fillRoot wsX7_cutRoot := goodIn_r _ [4] (by decide +kernel) (by decide +kernel)
set_option maxRecDepth 20000 in
theorem gX7_fillRoot_X7_cutRoot : GoodIn wsX7_fillRoot (va_wsS RX7 324 yX7_cutRoot wsX7_cutRoot) := goodIn_app (goodIn_of _ (by decide +kernel)) ggX7_fillRoot_X7_cutRoot
theorem dX7_fillRoot_0 : decode cX7_fillRoot 0 = .ok (.lload_n 0, 1) := by decide +kernel
theorem dX7_fillRoot_1 : decode cX7_fillRoot 1 = .ok (.invokestatic 324, 3) := by decide +kernel
theorem dX7_fillRoot_4 : decode cX7_fillRoot 4 = .ok (.lstore_n 2, 1) := by decide +kernel
theorem dX7_fillRoot_5 : decode cX7_fillRoot 5 = .ok (.lload_n 2, 1) := by decide +kernel
theorem dX7_fillRoot_6 : decode cX7_fillRoot 6 = .ok (.lload_n 2, 1) := by decide +kernel
theorem dX7_fillRoot_7 : decode cX7_fillRoot 7 = .ok (.lmul, 1) := by decide +kernel
theorem dX7_fillRoot_8 : decode cX7_fillRoot 8 = .ok (.lload_n 0, 1) := by decide +kernel
theorem dX7_fillRoot_9 : decode cX7_fillRoot 9 = .ok (.lcmp, 1) := by decide +kernel
theorem dX7_fillRoot_10 : decode cX7_fillRoot 10 = .ok (.ifCond .ge 9, 3) := by decide +kernel
theorem dX7_fillRoot_13 : decode cX7_fillRoot 13 = .ok (.lload_n 2, 1) := by decide +kernel
theorem dX7_fillRoot_14 : decode cX7_fillRoot 14 = .ok (.lconst 1, 1) := by decide +kernel
theorem dX7_fillRoot_15 : decode cX7_fillRoot 15 = .ok (.ladd, 1) := by decide +kernel
theorem dX7_fillRoot_16 : decode cX7_fillRoot 16 = .ok (.goto 4, 3) := by decide +kernel
theorem dX7_fillRoot_19 : decode cX7_fillRoot 19 = .ok (.lload_n 2, 1) := by decide +kernel
theorem dX7_fillRoot_20 : decode cX7_fillRoot 20 = .ok (.lreturn, 1) := by decide +kernel
theorem dX8_init_0 : decode cX8_init 0 = .ok (.aload_n 0, 1) := by decide +kernel
theorem dX8_init_1 : decode cX8_init 1 = .ok (.invokespecial 1, 3) := by decide +kernel
theorem dX8_init_4 : decode cX8_init 4 = .ok (.aload_n 0, 1) := by decide +kernel
theorem dX8_init_5 : decode cX8_init 5 = .ok (.bipush 40, 2) := by decide +kernel
theorem dX8_init_7 : decode cX8_init 7 = .ok (.newarray .int, 2) := by decide +kernel
theorem dX8_init_9 : decode cX8_init 9 = .ok (.putfield 7, 3) := by decide +kernel
theorem dX8_init_12 : decode cX8_init 12 = .ok (.aload_n 0, 1) := by decide +kernel
theorem dX8_init_13 : decode cX8_init 13 = .ok (.bipush 40, 2) := by decide +kernel
theorem dX8_init_15 : decode cX8_init 15 = .ok (.newarray .int, 2) := by decide +kernel
theorem dX8_init_17 : decode cX8_init 17 = .ok (.putfield 13, 3) := by decide +kernel
theorem dX8_init_20 : decode cX8_init 20 = .ok (.aload_n 0, 1) := by decide +kernel
theorem dX8_init_21 : decode cX8_init 21 = .ok (.bipush 40, 2) := by decide +kernel
theorem dX8_init_23 : decode cX8_init 23 = .ok (.newarray .int, 2) := by decide +kernel
theorem dX8_init_25 : decode cX8_init 25 = .ok (.putfield 16, 3) := by decide +kernel
theorem dX8_init_28 : decode cX8_init 28 = .ok (.aload_n 0, 1) := by decide +kernel
theorem dX8_init_29 : decode cX8_init 29 = .ok (.bipush 40, 2) := by decide +kernel
theorem dX8_init_31 : decode cX8_init 31 = .ok (.newarray .int, 2) := by decide +kernel
theorem dX8_init_33 : decode cX8_init 33 = .ok (.putfield 19, 3) := by decide +kernel
theorem dX8_init_36 : decode cX8_init 36 = .ok (.aload_n 0, 1) := by decide +kernel
theorem dX8_init_37 : decode cX8_init 37 = .ok (.bipush 40, 2) := by decide +kernel
theorem dX8_init_39 : decode cX8_init 39 = .ok (.newarray .int, 2) := by decide +kernel
theorem dX8_init_41 : decode cX8_init 41 = .ok (.putfield 22, 3) := by decide +kernel
theorem dX8_init_44 : decode cX8_init 44 = .ok (.aload_n 0, 1) := by decide +kernel
theorem dX8_init_45 : decode cX8_init 45 = .ok (.bipush 40, 2) := by decide +kernel
theorem dX8_init_47 : decode cX8_init 47 = .ok (.newarray .int, 2) := by decide +kernel
theorem dX8_init_49 : decode cX8_init 49 = .ok (.putfield 25, 3) := by decide +kernel
theorem dX8_init_52 : decode cX8_init 52 = .ok (.aload_n 0, 1) := by decide +kernel
theorem dX8_init_53 : decode cX8_init 53 = .ok (.bipush 40, 2) := by decide +kernel
theorem dX8_init_55 : decode cX8_init 55 = .ok (.newarray .int, 2) := by decide +kernel
theorem dX8_init_57 : decode cX8_init 57 = .ok (.putfield 28, 3) := by decide +kernel
theorem dX8_init_60 : decode cX8_init 60 = .ok (.aload_n 0, 1) := by decide +kernel
theorem dX8_init_61 : decode cX8_init 61 = .ok (.bipush 40, 2) := by decide +kernel
theorem dX8_init_63 : decode cX8_init 63 = .ok (.newarray .int, 2) := by decide +kernel
theorem dX8_init_65 : decode cX8_init 65 = .ok (.putfield 31, 3) := by decide +kernel
theorem dX8_init_68 : decode cX8_init 68 = .ok (.aload_n 0, 1) := by decide +kernel
theorem dX8_init_69 : decode cX8_init 69 = .ok (.bipush 40, 2) := by decide +kernel
theorem dX8_init_71 : decode cX8_init 71 = .ok (.newarray .int, 2) := by decide +kernel
theorem dX8_init_73 : decode cX8_init 73 = .ok (.putfield 34, 3) := by decide +kernel
theorem dX8_init_76 : decode cX8_init 76 = .ok (.aload_n 0, 1) := by decide +kernel
theorem dX8_init_77 : decode cX8_init 77 = .ok (.bipush 40, 2) := by decide +kernel
theorem dX8_init_79 : decode cX8_init 79 = .ok (.newarray .int, 2) := by decide +kernel
theorem dX8_init_81 : decode cX8_init 81 = .ok (.putfield 37, 3) := by decide +kernel
theorem dX8_init_84 : decode cX8_init 84 = .ok (.aload_n 0, 1) := by decide +kernel
theorem dX8_init_85 : decode cX8_init 85 = .ok (.bipush 40, 2) := by decide +kernel
theorem dX8_init_87 : decode cX8_init 87 = .ok (.newarray .int, 2) := by decide +kernel
theorem dX8_init_89 : decode cX8_init 89 = .ok (.putfield 40, 3) := by decide +kernel
theorem dX8_init_92 : decode cX8_init 92 = .ok (.aload_n 0, 1) := by decide +kernel
theorem dX8_init_93 : decode cX8_init 93 = .ok (.sipush 1000, 3) := by decide +kernel
theorem dX8_init_96 : decode cX8_init 96 = .ok (.newarray .boolean, 2) := by decide +kernel
theorem dX8_init_98 : decode cX8_init 98 = .ok (.putfield 43, 3) := by decide +kernel
theorem dX8_init_101 : decode cX8_init 101 = .ok (.aload_n 0, 1) := by decide +kernel
theorem dX8_init_102 : decode cX8_init 102 = .ok (.sipush 1000, 3) := by decide +kernel
theorem dX8_init_105 : decode cX8_init 105 = .ok (.newarray .long, 2) := by decide +kernel
theorem dX8_init_107 : decode cX8_init 107 = .ok (.putfield 47, 3) := by decide +kernel
theorem dX8_init_110 : decode cX8_init 110 = .ok (.aload_n 0, 1) := by decide +kernel
theorem dX8_init_111 : decode cX8_init 111 = .ok (.sipush 1000, 3) := by decide +kernel
theorem dX8_init_114 : decode cX8_init 114 = .ok (.newarray .long, 2) := by decide +kernel
theorem dX8_init_116 : decode cX8_init 116 = .ok (.putfield 51, 3) := by decide +kernel
theorem dX8_init_119 : decode cX8_init 119 = .ok (.aload_n 0, 1) := by decide +kernel
theorem dX8_init_120 : decode cX8_init 120 = .ok (.sipush 1000, 3) := by decide +kernel
theorem dX8_init_123 : decode cX8_init 123 = .ok (.newarray .boolean, 2) := by decide +kernel
theorem dX8_init_125 : decode cX8_init 125 = .ok (.putfield 54, 3) := by decide +kernel
theorem dX8_init_128 : decode cX8_init 128 = .ok (.aload_n 0, 1) := by decide +kernel
theorem dX8_init_129 : decode cX8_init 129 = .ok (.sipush 1000, 3) := by decide +kernel
theorem dX8_init_132 : decode cX8_init 132 = .ok (.newarray .long, 2) := by decide +kernel
theorem dX8_init_134 : decode cX8_init 134 = .ok (.putfield 57, 3) := by decide +kernel
theorem dX8_init_137 : decode cX8_init 137 = .ok (.aload_n 0, 1) := by decide +kernel
theorem dX8_init_138 : decode cX8_init 138 = .ok (.sipush 1000, 3) := by decide +kernel
theorem dX8_init_141 : decode cX8_init 141 = .ok (.newarray .long, 2) := by decide +kernel
theorem dX8_init_143 : decode cX8_init 143 = .ok (.putfield 60, 3) := by decide +kernel
theorem dX8_init_146 : decode cX8_init 146 = .ok (.aload_n 0, 1) := by decide +kernel
theorem dX8_init_147 : decode cX8_init 147 = .ok (.bipush 40, 2) := by decide +kernel
theorem dX8_init_149 : decode cX8_init 149 = .ok (.newarray .boolean, 2) := by decide +kernel
theorem dX8_init_151 : decode cX8_init 151 = .ok (.putfield 63, 3) := by decide +kernel
theorem dX8_init_154 : decode cX8_init 154 = .ok (.aload_n 0, 1) := by decide +kernel
theorem dX8_init_155 : decode cX8_init 155 = .ok (.bipush 40, 2) := by decide +kernel
theorem dX8_init_157 : decode cX8_init 157 = .ok (.newarray .long, 2) := by decide +kernel
theorem dX8_init_159 : decode cX8_init 159 = .ok (.putfield 66, 3) := by decide +kernel
theorem dX8_init_162 : decode cX8_init 162 = .ok (.aload_n 0, 1) := by decide +kernel
theorem dX8_init_163 : decode cX8_init 163 = .ok (.bipush 40, 2) := by decide +kernel
theorem dX8_init_165 : decode cX8_init 165 = .ok (.newarray .long, 2) := by decide +kernel
theorem dX8_init_167 : decode cX8_init 167 = .ok (.putfield 69, 3) := by decide +kernel
theorem dX8_init_170 : decode cX8_init 170 = .ok (.aload_n 0, 1) := by decide +kernel
theorem dX8_init_171 : decode cX8_init 171 = .ok (.bipush 40, 2) := by decide +kernel
theorem dX8_init_173 : decode cX8_init 173 = .ok (.newarray .int, 2) := by decide +kernel
theorem dX8_init_175 : decode cX8_init 175 = .ok (.putfield 72, 3) := by decide +kernel
theorem dX8_init_178 : decode cX8_init 178 = .ok (.aload_n 0, 1) := by decide +kernel
theorem dX8_init_179 : decode cX8_init 179 = .ok (.bipush 40, 2) := by decide +kernel
theorem dX8_init_181 : decode cX8_init 181 = .ok (.newarray .long, 2) := by decide +kernel
theorem dX8_init_183 : decode cX8_init 183 = .ok (.putfield 75, 3) := by decide +kernel
theorem dX8_init_186 : decode cX8_init 186 = .ok (.aload_n 0, 1) := by decide +kernel
theorem dX8_init_187 : decode cX8_init 187 = .ok (.bipush 40, 2) := by decide +kernel
theorem dX8_init_189 : decode cX8_init 189 = .ok (.newarray .boolean, 2) := by decide +kernel
theorem dX8_init_191 : decode cX8_init 191 = .ok (.putfield 78, 3) := by decide +kernel
theorem dX8_init_194 : decode cX8_init 194 = .ok (.return_, 1) := by decide +kernel
theorem dX8_thrown_0 : decode cX8_thrown 0 = .ok (.aload_n 0, 1) := by decide +kernel
theorem dX8_thrown_1 : decode cX8_thrown 1 = .ok (.getfield 81, 3) := by decide +kernel
theorem dX8_thrown_4 : decode cX8_thrown 4 = .ok (.ireturn, 1) := by decide +kernel
theorem dX8_holds_0 : decode cX8_holds 0 = .ok (.aload_n 0, 1) := by decide +kernel
theorem dX8_holds_1 : decode cX8_holds 1 = .ok (.iload_n 1, 1) := by decide +kernel
theorem dX8_holds_2 : decode cX8_holds 2 = .ok (.putfield 81, 3) := by decide +kernel
theorem dX8_holds_5 : decode cX8_holds 5 = .ok (.iload_n 1, 1) := by decide +kernel
theorem dX8_holds_6 : decode cX8_holds 6 = .ok (.ifCond .ne 7, 3) := by decide +kernel
theorem dX8_holds_9 : decode cX8_holds 9 = .ok (.iconst 1, 1) := by decide +kernel
theorem dX8_holds_10 : decode cX8_holds 10 = .ok (.goto 4, 3) := by decide +kernel
theorem dX8_holds_13 : decode cX8_holds 13 = .ok (.iconst 0, 1) := by decide +kernel
theorem dX8_holds_14 : decode cX8_holds 14 = .ok (.ireturn, 1) := by decide +kernel
theorem dX8_in_0 : decode cX8_in 0 = .ok (.iload_n 0, 1) := by decide +kernel
theorem dX8_in_1 : decode cX8_in 1 = .ok (.iload_n 1, 1) := by decide +kernel
theorem dX8_in_2 : decode cX8_in 2 = .ok (.if_icmp .lt 12, 3) := by decide +kernel
theorem dX8_in_5 : decode cX8_in 5 = .ok (.iload_n 0, 1) := by decide +kernel
theorem dX8_in_6 : decode cX8_in 6 = .ok (.iload_n 2, 1) := by decide +kernel
theorem dX8_in_7 : decode cX8_in 7 = .ok (.if_icmp .gt 7, 3) := by decide +kernel
theorem dX8_in_10 : decode cX8_in 10 = .ok (.iconst 1, 1) := by decide +kernel
theorem dX8_in_11 : decode cX8_in 11 = .ok (.goto 4, 3) := by decide +kernel
theorem dX8_in_14 : decode cX8_in 14 = .ok (.iconst 0, 1) := by decide +kernel
theorem dX8_in_15 : decode cX8_in 15 = .ok (.ireturn, 1) := by decide +kernel
set_option maxRecDepth 20000 in
theorem ggX8_isProgram_X8_in : GoodIn wsX8_isProgram wsX8_in := goodIn_r _ [5] (by decide +kernel) (by decide +kernel)
set_option maxRecDepth 20000 in
theorem gX8_isProgram_X8_in : GoodIn wsX8_isProgram (va_wsS RX8 88 yX8_in wsX8_in) := goodIn_app (goodIn_of _ (by decide +kernel)) ggX8_isProgram_X8_in
theorem dX8_isProgram_0 : decode cX8_isProgram 0 = .ok (.iload_n 1, 1) := by decide +kernel
theorem dX8_isProgram_1 : decode cX8_isProgram 1 = .ok (.iconst 0, 1) := by decide +kernel
theorem dX8_isProgram_2 : decode cX8_isProgram 2 = .ok (.aload_n 0, 1) := by decide +kernel
theorem dX8_isProgram_3 : decode cX8_isProgram 3 = .ok (.getfield 85, 3) := by decide +kernel
theorem dX8_isProgram_6 : decode cX8_isProgram 6 = .ok (.iconst 1, 1) := by decide +kernel
theorem dX8_isProgram_7 : decode cX8_isProgram 7 = .ok (.isub, 1) := by decide +kernel
theorem dX8_isProgram_8 : decode cX8_isProgram 8 = .ok (.invokestatic 88, 3) := by decide +kernel
theorem dX8_isProgram_11 : decode cX8_isProgram 11 = .ok (.ireturn, 1) := by decide +kernel
set_option maxRecDepth 20000 in
theorem ggX8_isPlace_X8_in : GoodIn wsX8_isPlace wsX8_in := goodIn_r _ [4] (by decide +kernel) (by decide +kernel)
set_option maxRecDepth 20000 in
theorem gX8_isPlace_X8_in : GoodIn wsX8_isPlace (va_wsS RX8 88 yX8_in wsX8_in) := goodIn_app (goodIn_of _ (by decide +kernel)) ggX8_isPlace_X8_in
theorem dX8_isPlace_0 : decode cX8_isPlace 0 = .ok (.iload_n 0, 1) := by decide +kernel
theorem dX8_isPlace_1 : decode cX8_isPlace 1 = .ok (.iconst 0, 1) := by decide +kernel
theorem dX8_isPlace_2 : decode cX8_isPlace 2 = .ok (.bipush 24, 2) := by decide +kernel
theorem dX8_isPlace_4 : decode cX8_isPlace 4 = .ok (.invokestatic 88, 3) := by decide +kernel
theorem dX8_isPlace_7 : decode cX8_isPlace 7 = .ok (.ireturn, 1) := by decide +kernel
theorem dX8_cut_0 : decode cX8_cut 0 = .ok (.lload_n 0, 1) := by decide +kernel
theorem dX8_cut_1 : decode cX8_cut 1 = .ok (.lload_n 2, 1) := by decide +kernel
theorem dX8_cut_2 : decode cX8_cut 2 = .ok (.ldiv, 1) := by decide +kernel
theorem dX8_cut_3 : decode cX8_cut 3 = .ok (.lstore 4, 2) := by decide +kernel
theorem dX8_cut_5 : decode cX8_cut 5 = .ok (.lload 4, 2) := by decide +kernel
theorem dX8_cut_7 : decode cX8_cut 7 = .ok (.lload_n 2, 1) := by decide +kernel
theorem dX8_cut_8 : decode cX8_cut 8 = .ok (.lmul, 1) := by decide +kernel
theorem dX8_cut_9 : decode cX8_cut 9 = .ok (.lload_n 0, 1) := by decide +kernel
theorem dX8_cut_10 : decode cX8_cut 10 = .ok (.lcmp, 1) := by decide +kernel
theorem dX8_cut_11 : decode cX8_cut 11 = .ok (.ifCond .eq 35, 3) := by decide +kernel
theorem dX8_cut_14 : decode cX8_cut 14 = .ok (.lload_n 0, 1) := by decide +kernel
theorem dX8_cut_15 : decode cX8_cut 15 = .ok (.lconst 0, 1) := by decide +kernel
theorem dX8_cut_16 : decode cX8_cut 16 = .ok (.lcmp, 1) := by decide +kernel
theorem dX8_cut_17 : decode cX8_cut 17 = .ok (.ifCond .ge 7, 3) := by decide +kernel
theorem dX8_cut_20 : decode cX8_cut 20 = .ok (.iconst 1, 1) := by decide +kernel
theorem dX8_cut_21 : decode cX8_cut 21 = .ok (.goto 4, 3) := by decide +kernel
theorem dX8_cut_24 : decode cX8_cut 24 = .ok (.iconst 0, 1) := by decide +kernel
theorem dX8_cut_25 : decode cX8_cut 25 = .ok (.lload_n 2, 1) := by decide +kernel
theorem dX8_cut_26 : decode cX8_cut 26 = .ok (.lconst 0, 1) := by decide +kernel
theorem dX8_cut_27 : decode cX8_cut 27 = .ok (.lcmp, 1) := by decide +kernel
theorem dX8_cut_28 : decode cX8_cut 28 = .ok (.ifCond .ge 7, 3) := by decide +kernel
theorem dX8_cut_31 : decode cX8_cut 31 = .ok (.iconst 1, 1) := by decide +kernel
theorem dX8_cut_32 : decode cX8_cut 32 = .ok (.goto 4, 3) := by decide +kernel
theorem dX8_cut_35 : decode cX8_cut 35 = .ok (.iconst 0, 1) := by decide +kernel
theorem dX8_cut_36 : decode cX8_cut 36 = .ok (.if_icmp .eq 10, 3) := by decide +kernel
theorem dX8_cut_39 : decode cX8_cut 39 = .ok (.lload 4, 2) := by decide +kernel
theorem dX8_cut_41 : decode cX8_cut 41 = .ok (.lconst 1, 1) := by decide +kernel
theorem dX8_cut_42 : decode cX8_cut 42 = .ok (.lsub, 1) := by decide +kernel
theorem dX8_cut_43 : decode cX8_cut 43 = .ok (.goto 5, 3) := by decide +kernel
theorem dX8_cut_46 : decode cX8_cut 46 = .ok (.lload 4, 2) := by decide +kernel
theorem dX8_cut_48 : decode cX8_cut 48 = .ok (.lreturn, 1) := by decide +kernel
theorem dX8_fill_0 : decode cX8_fill 0 = .ok (.lload_n 0, 1) := by decide +kernel
theorem dX8_fill_1 : decode cX8_fill 1 = .ok (.lload_n 2, 1) := by decide +kernel
theorem dX8_fill_2 : decode cX8_fill 2 = .ok (.ldiv, 1) := by decide +kernel
theorem dX8_fill_3 : decode cX8_fill 3 = .ok (.lstore 4, 2) := by decide +kernel
theorem dX8_fill_5 : decode cX8_fill 5 = .ok (.lload 4, 2) := by decide +kernel
theorem dX8_fill_7 : decode cX8_fill 7 = .ok (.lload_n 2, 1) := by decide +kernel
theorem dX8_fill_8 : decode cX8_fill 8 = .ok (.lmul, 1) := by decide +kernel
theorem dX8_fill_9 : decode cX8_fill 9 = .ok (.lload_n 0, 1) := by decide +kernel
theorem dX8_fill_10 : decode cX8_fill 10 = .ok (.lcmp, 1) := by decide +kernel
theorem dX8_fill_11 : decode cX8_fill 11 = .ok (.ifCond .eq 35, 3) := by decide +kernel
theorem dX8_fill_14 : decode cX8_fill 14 = .ok (.lload_n 0, 1) := by decide +kernel
theorem dX8_fill_15 : decode cX8_fill 15 = .ok (.lconst 0, 1) := by decide +kernel
theorem dX8_fill_16 : decode cX8_fill 16 = .ok (.lcmp, 1) := by decide +kernel
theorem dX8_fill_17 : decode cX8_fill 17 = .ok (.ifCond .ge 7, 3) := by decide +kernel
theorem dX8_fill_20 : decode cX8_fill 20 = .ok (.iconst 1, 1) := by decide +kernel
theorem dX8_fill_21 : decode cX8_fill 21 = .ok (.goto 4, 3) := by decide +kernel
theorem dX8_fill_24 : decode cX8_fill 24 = .ok (.iconst 0, 1) := by decide +kernel
theorem dX8_fill_25 : decode cX8_fill 25 = .ok (.lload_n 2, 1) := by decide +kernel
theorem dX8_fill_26 : decode cX8_fill 26 = .ok (.lconst 0, 1) := by decide +kernel
theorem dX8_fill_27 : decode cX8_fill 27 = .ok (.lcmp, 1) := by decide +kernel
theorem dX8_fill_28 : decode cX8_fill 28 = .ok (.ifCond .ge 7, 3) := by decide +kernel
theorem dX8_fill_31 : decode cX8_fill 31 = .ok (.iconst 1, 1) := by decide +kernel
theorem dX8_fill_32 : decode cX8_fill 32 = .ok (.goto 4, 3) := by decide +kernel
theorem dX8_fill_35 : decode cX8_fill 35 = .ok (.iconst 0, 1) := by decide +kernel
theorem dX8_fill_36 : decode cX8_fill 36 = .ok (.if_icmp .ne 10, 3) := by decide +kernel
theorem dX8_fill_39 : decode cX8_fill 39 = .ok (.lload 4, 2) := by decide +kernel
theorem dX8_fill_41 : decode cX8_fill 41 = .ok (.lconst 1, 1) := by decide +kernel
theorem dX8_fill_42 : decode cX8_fill 42 = .ok (.ladd, 1) := by decide +kernel
theorem dX8_fill_43 : decode cX8_fill 43 = .ok (.goto 5, 3) := by decide +kernel
theorem dX8_fill_46 : decode cX8_fill 46 = .ok (.lload 4, 2) := by decide +kernel
theorem dX8_fill_48 : decode cX8_fill 48 = .ok (.lreturn, 1) := by decide +kernel
theorem dX8_least_0 : decode cX8_least 0 = .ok (.lload_n 0, 1) := by decide +kernel
theorem dX8_least_1 : decode cX8_least 1 = .ok (.lload_n 2, 1) := by decide +kernel
theorem dX8_least_2 : decode cX8_least 2 = .ok (.lcmp, 1) := by decide +kernel
theorem dX8_least_3 : decode cX8_least 3 = .ok (.ifCond .ge 7, 3) := by decide +kernel
theorem dX8_least_6 : decode cX8_least 6 = .ok (.lload_n 0, 1) := by decide +kernel
theorem dX8_least_7 : decode cX8_least 7 = .ok (.goto 4, 3) := by decide +kernel
theorem dX8_least_10 : decode cX8_least 10 = .ok (.lload_n 2, 1) := by decide +kernel
theorem dX8_least_11 : decode cX8_least 11 = .ok (.lreturn, 1) := by decide +kernel
theorem dX8_most_0 : decode cX8_most 0 = .ok (.lload_n 0, 1) := by decide +kernel
theorem dX8_most_1 : decode cX8_most 1 = .ok (.lload_n 2, 1) := by decide +kernel
theorem dX8_most_2 : decode cX8_most 2 = .ok (.lcmp, 1) := by decide +kernel
theorem dX8_most_3 : decode cX8_most 3 = .ok (.ifCond .le 7, 3) := by decide +kernel
theorem dX8_most_6 : decode cX8_most 6 = .ok (.lload_n 0, 1) := by decide +kernel
theorem dX8_most_7 : decode cX8_most 7 = .ok (.goto 4, 3) := by decide +kernel
theorem dX8_most_10 : decode cX8_most 10 = .ok (.lload_n 2, 1) := by decide +kernel
theorem dX8_most_11 : decode cX8_most 11 = .ok (.lreturn, 1) := by decide +kernel
theorem dX8_rootOf_0 : decode cX8_rootOf 0 = .ok (.lconst 0, 1) := by decide +kernel
theorem dX8_rootOf_1 : decode cX8_rootOf 1 = .ok (.lstore_n 2, 1) := by decide +kernel
theorem dX8_rootOf_2 : decode cX8_rootOf 2 = .ok (.bipush 30, 2) := by decide +kernel
theorem dX8_rootOf_4 : decode cX8_rootOf 4 = .ok (.istore 4, 2) := by decide +kernel
theorem dX8_rootOf_6 : decode cX8_rootOf 6 = .ok (.iload 4, 2) := by decide +kernel
theorem dX8_rootOf_8 : decode cX8_rootOf 8 = .ok (.ifCond .lt 34, 3) := by decide +kernel
theorem dX8_rootOf_11 : decode cX8_rootOf 11 = .ok (.lload_n 2, 1) := by decide +kernel
theorem dX8_rootOf_12 : decode cX8_rootOf 12 = .ok (.lconst 1, 1) := by decide +kernel
theorem dX8_rootOf_13 : decode cX8_rootOf 13 = .ok (.iload 4, 2) := by decide +kernel
theorem dX8_rootOf_15 : decode cX8_rootOf 15 = .ok (.lshl, 1) := by decide +kernel
theorem dX8_rootOf_16 : decode cX8_rootOf 16 = .ok (.lor, 1) := by decide +kernel
theorem dX8_rootOf_17 : decode cX8_rootOf 17 = .ok (.lstore 5, 2) := by decide +kernel
theorem dX8_rootOf_19 : decode cX8_rootOf 19 = .ok (.lload 5, 2) := by decide +kernel
theorem dX8_rootOf_21 : decode cX8_rootOf 21 = .ok (.lload 5, 2) := by decide +kernel
theorem dX8_rootOf_23 : decode cX8_rootOf 23 = .ok (.lmul, 1) := by decide +kernel
theorem dX8_rootOf_24 : decode cX8_rootOf 24 = .ok (.lload_n 0, 1) := by decide +kernel
theorem dX8_rootOf_25 : decode cX8_rootOf 25 = .ok (.lcmp, 1) := by decide +kernel
theorem dX8_rootOf_26 : decode cX8_rootOf 26 = .ok (.ifCond .gt 8, 3) := by decide +kernel
theorem dX8_rootOf_29 : decode cX8_rootOf 29 = .ok (.lload 5, 2) := by decide +kernel
theorem dX8_rootOf_31 : decode cX8_rootOf 31 = .ok (.goto 4, 3) := by decide +kernel
theorem dX8_rootOf_34 : decode cX8_rootOf 34 = .ok (.lload_n 2, 1) := by decide +kernel
theorem dX8_rootOf_35 : decode cX8_rootOf 35 = .ok (.lstore_n 2, 1) := by decide +kernel
theorem dX8_rootOf_36 : decode cX8_rootOf 36 = .ok (.iinc 4 (-1), 3) := by decide +kernel
theorem dX8_rootOf_39 : decode cX8_rootOf 39 = .ok (.goto (-33), 3) := by decide +kernel
theorem dX8_rootOf_42 : decode cX8_rootOf 42 = .ok (.lload_n 2, 1) := by decide +kernel
theorem dX8_rootOf_43 : decode cX8_rootOf 43 = .ok (.lreturn, 1) := by decide +kernel
theorem dX8_sets_0 : decode cX8_sets 0 = .ok (.aload_n 0, 1) := by decide +kernel
theorem dX8_sets_1 : decode cX8_sets 1 = .ok (.iconst 1, 1) := by decide +kernel
theorem dX8_sets_2 : decode cX8_sets 2 = .ok (.putfield 92, 3) := by decide +kernel
theorem dX8_sets_5 : decode cX8_sets 5 = .ok (.aload_n 0, 1) := by decide +kernel
theorem dX8_sets_6 : decode cX8_sets 6 = .ok (.lload_n 1, 1) := by decide +kernel
theorem dX8_sets_7 : decode cX8_sets 7 = .ok (.putfield 96, 3) := by decide +kernel
theorem dX8_sets_10 : decode cX8_sets 10 = .ok (.aload_n 0, 1) := by decide +kernel
theorem dX8_sets_11 : decode cX8_sets 11 = .ok (.lload_n 3, 1) := by decide +kernel
theorem dX8_sets_12 : decode cX8_sets 12 = .ok (.putfield 100, 3) := by decide +kernel
theorem dX8_sets_15 : decode cX8_sets 15 = .ok (.return_, 1) := by decide +kernel
set_option maxRecDepth 20000 in
theorem ggX8_multiplies_X8_least : GoodIn wsX8_multiplies wsX8_least := goodIn_r _ [4] (by decide +kernel) (by decide +kernel)
set_option maxRecDepth 20000 in
theorem gX8_multiplies_X8_least : GoodIn wsX8_multiplies (va_wsS RX8 103 yX8_least wsX8_least) := goodIn_app (goodIn_of _ (by decide +kernel)) ggX8_multiplies_X8_least
set_option maxRecDepth 20000 in
theorem ggX8_multiplies_X8_most : GoodIn wsX8_multiplies wsX8_most := goodIn_r _ [7] (by decide +kernel) (by decide +kernel)
set_option maxRecDepth 20000 in
theorem gX8_multiplies_X8_most : GoodIn wsX8_multiplies (va_wsS RX8 107 yX8_most wsX8_most) := goodIn_app (goodIn_of _ (by decide +kernel)) ggX8_multiplies_X8_most
set_option maxRecDepth 20000 in
theorem ggX8_multiplies_X8_cut : GoodIn wsX8_multiplies wsX8_cut := goodIn_r _ [10] (by decide +kernel) (by decide +kernel)
set_option maxRecDepth 20000 in
theorem gX8_multiplies_X8_cut : GoodIn wsX8_multiplies (va_wsS RX8 110 yX8_cut wsX8_cut) := goodIn_app (goodIn_of _ (by decide +kernel)) ggX8_multiplies_X8_cut
set_option maxRecDepth 20000 in
theorem ggX8_multiplies_X8_fill : GoodIn wsX8_multiplies wsX8_fill := goodIn_r _ [13] (by decide +kernel) (by decide +kernel)
set_option maxRecDepth 20000 in
theorem gX8_multiplies_X8_fill : GoodIn wsX8_multiplies (va_wsS RX8 113 yX8_fill wsX8_fill) := goodIn_app (goodIn_of _ (by decide +kernel)) ggX8_multiplies_X8_fill
set_option maxRecDepth 20000 in
theorem ggX8_multiplies_X8_sets : GoodIn wsX8_multiplies wsX8_sets := goodIn_r _ [17, 18, 19, 20, 21, 22, 23, 24, 25, 26, 27, 28, 29, 30, 31, 32, 33, 34, 35, 36, 37, 38, 39, 40, 41, 42, 43, 44, 45, 46, 47, 48] (by decide +kernel) (by decide +kernel)
set_option maxRecDepth 20000 in
theorem gX8_multiplies_X8_sets : GoodIn wsX8_multiplies (wsV RX8 116 RX8 yX8_sets wsX8_sets) := goodIn_app (goodIn_of _ (by decide +kernel)) ggX8_multiplies_X8_sets
theorem dX8_multiplies_0 : decode cX8_multiplies 0 = .ok (.lload_n 1, 1) := by decide +kernel
theorem dX8_multiplies_1 : decode cX8_multiplies 1 = .ok (.lload 5, 2) := by decide +kernel
theorem dX8_multiplies_3 : decode cX8_multiplies 3 = .ok (.lmul, 1) := by decide +kernel
theorem dX8_multiplies_4 : decode cX8_multiplies 4 = .ok (.lload_n 1, 1) := by decide +kernel
theorem dX8_multiplies_5 : decode cX8_multiplies 5 = .ok (.lload 7, 2) := by decide +kernel
theorem dX8_multiplies_7 : decode cX8_multiplies 7 = .ok (.lmul, 1) := by decide +kernel
theorem dX8_multiplies_8 : decode cX8_multiplies 8 = .ok (.invokestatic 103, 3) := by decide +kernel
theorem dX8_multiplies_11 : decode cX8_multiplies 11 = .ok (.lstore 10, 2) := by decide +kernel
theorem dX8_multiplies_13 : decode cX8_multiplies 13 = .ok (.lload_n 3, 1) := by decide +kernel
theorem dX8_multiplies_14 : decode cX8_multiplies 14 = .ok (.lload 5, 2) := by decide +kernel
theorem dX8_multiplies_16 : decode cX8_multiplies 16 = .ok (.lmul, 1) := by decide +kernel
theorem dX8_multiplies_17 : decode cX8_multiplies 17 = .ok (.lload_n 3, 1) := by decide +kernel
theorem dX8_multiplies_18 : decode cX8_multiplies 18 = .ok (.lload 7, 2) := by decide +kernel
theorem dX8_multiplies_20 : decode cX8_multiplies 20 = .ok (.lmul, 1) := by decide +kernel
theorem dX8_multiplies_21 : decode cX8_multiplies 21 = .ok (.invokestatic 103, 3) := by decide +kernel
theorem dX8_multiplies_24 : decode cX8_multiplies 24 = .ok (.lstore 12, 2) := by decide +kernel
theorem dX8_multiplies_26 : decode cX8_multiplies 26 = .ok (.lload_n 1, 1) := by decide +kernel
theorem dX8_multiplies_27 : decode cX8_multiplies 27 = .ok (.lload 5, 2) := by decide +kernel
theorem dX8_multiplies_29 : decode cX8_multiplies 29 = .ok (.lmul, 1) := by decide +kernel
theorem dX8_multiplies_30 : decode cX8_multiplies 30 = .ok (.lload_n 1, 1) := by decide +kernel
theorem dX8_multiplies_31 : decode cX8_multiplies 31 = .ok (.lload 7, 2) := by decide +kernel
theorem dX8_multiplies_33 : decode cX8_multiplies 33 = .ok (.lmul, 1) := by decide +kernel
theorem dX8_multiplies_34 : decode cX8_multiplies 34 = .ok (.invokestatic 107, 3) := by decide +kernel
theorem dX8_multiplies_37 : decode cX8_multiplies 37 = .ok (.lstore 14, 2) := by decide +kernel
theorem dX8_multiplies_39 : decode cX8_multiplies 39 = .ok (.lload_n 3, 1) := by decide +kernel
theorem dX8_multiplies_40 : decode cX8_multiplies 40 = .ok (.lload 5, 2) := by decide +kernel
theorem dX8_multiplies_42 : decode cX8_multiplies 42 = .ok (.lmul, 1) := by decide +kernel
theorem dX8_multiplies_43 : decode cX8_multiplies 43 = .ok (.lload_n 3, 1) := by decide +kernel
theorem dX8_multiplies_44 : decode cX8_multiplies 44 = .ok (.lload 7, 2) := by decide +kernel
theorem dX8_multiplies_46 : decode cX8_multiplies 46 = .ok (.lmul, 1) := by decide +kernel
theorem dX8_multiplies_47 : decode cX8_multiplies 47 = .ok (.invokestatic 107, 3) := by decide +kernel
theorem dX8_multiplies_50 : decode cX8_multiplies 50 = .ok (.lstore 16, 2) := by decide +kernel
theorem dX8_multiplies_52 : decode cX8_multiplies 52 = .ok (.aload_n 0, 1) := by decide +kernel
theorem dX8_multiplies_53 : decode cX8_multiplies 53 = .ok (.lload 10, 2) := by decide +kernel
theorem dX8_multiplies_55 : decode cX8_multiplies 55 = .ok (.lload 12, 2) := by decide +kernel
theorem dX8_multiplies_57 : decode cX8_multiplies 57 = .ok (.invokestatic 103, 3) := by decide +kernel
theorem dX8_multiplies_60 : decode cX8_multiplies 60 = .ok (.lconst 1, 1) := by decide +kernel
theorem dX8_multiplies_61 : decode cX8_multiplies 61 = .ok (.iload 9, 2) := by decide +kernel
theorem dX8_multiplies_63 : decode cX8_multiplies 63 = .ok (.lshl, 1) := by decide +kernel
theorem dX8_multiplies_64 : decode cX8_multiplies 64 = .ok (.invokestatic 110, 3) := by decide +kernel
theorem dX8_multiplies_67 : decode cX8_multiplies 67 = .ok (.lload 14, 2) := by decide +kernel
theorem dX8_multiplies_69 : decode cX8_multiplies 69 = .ok (.lload 16, 2) := by decide +kernel
theorem dX8_multiplies_71 : decode cX8_multiplies 71 = .ok (.invokestatic 107, 3) := by decide +kernel
theorem dX8_multiplies_74 : decode cX8_multiplies 74 = .ok (.lconst 1, 1) := by decide +kernel
theorem dX8_multiplies_75 : decode cX8_multiplies 75 = .ok (.iload 9, 2) := by decide +kernel
theorem dX8_multiplies_77 : decode cX8_multiplies 77 = .ok (.lshl, 1) := by decide +kernel
theorem dX8_multiplies_78 : decode cX8_multiplies 78 = .ok (.invokestatic 113, 3) := by decide +kernel
theorem dX8_multiplies_81 : decode cX8_multiplies 81 = .ok (.invokevirtual 116, 3) := by decide +kernel
theorem dX8_multiplies_84 : decode cX8_multiplies 84 = .ok (.return_, 1) := by decide +kernel
set_option maxRecDepth 20000 in
theorem ggX8_inverts_X8_cut : GoodIn wsX8_inverts wsX8_cut := goodIn_r _ [5] (by decide +kernel) (by decide +kernel)
set_option maxRecDepth 20000 in
theorem gX8_inverts_X8_cut : GoodIn wsX8_inverts (va_wsS RX8 110 yX8_cut wsX8_cut) := goodIn_app (goodIn_of _ (by decide +kernel)) ggX8_inverts_X8_cut
set_option maxRecDepth 20000 in
theorem ggX8_inverts_X8_fill : GoodIn wsX8_inverts wsX8_fill := goodIn_r _ [8] (by decide +kernel) (by decide +kernel)
set_option maxRecDepth 20000 in
theorem gX8_inverts_X8_fill : GoodIn wsX8_inverts (va_wsS RX8 113 yX8_fill wsX8_fill) := goodIn_app (goodIn_of _ (by decide +kernel)) ggX8_inverts_X8_fill
set_option maxRecDepth 20000 in
theorem ggX8_inverts_X8_sets : GoodIn wsX8_inverts wsX8_sets := goodIn_r _ [12, 1, 13, 14, 15, 16, 17, 18, 19, 20, 21, 22, 23, 24, 25, 26, 27, 28, 29, 30, 31, 32, 33, 34, 35, 36, 37, 38, 39, 40, 41, 42] (by decide +kernel) (by decide +kernel)
set_option maxRecDepth 20000 in
theorem gX8_inverts_X8_sets : GoodIn wsX8_inverts (wsV RX8 116 RX8 yX8_sets wsX8_sets) := goodIn_app (goodIn_of _ (by decide +kernel)) ggX8_inverts_X8_sets
theorem dX8_inverts_0 : decode cX8_inverts 0 = .ok (.aload_n 0, 1) := by decide +kernel
theorem dX8_inverts_1 : decode cX8_inverts 1 = .ok (.lload_n 1, 1) := by decide +kernel
theorem dX8_inverts_2 : decode cX8_inverts 2 = .ok (.lconst 0, 1) := by decide +kernel
theorem dX8_inverts_3 : decode cX8_inverts 3 = .ok (.lcmp, 1) := by decide +kernel
