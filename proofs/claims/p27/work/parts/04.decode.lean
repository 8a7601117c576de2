theorem dX7_quotient_7 : decode cX7_quotient 7 = .ok (.iconst 0, 1) := by decide +kernel
theorem dX7_quotient_8 : decode cX7_quotient 8 = .ok (.bipush 24, 2) := by decide +kernel
theorem dX7_quotient_10 : decode cX7_quotient 10 = .ok (.invokestatic 51, 3) := by decide +kernel
theorem dX7_quotient_13 : decode cX7_quotient 13 = .ok (.aload_n 0, 1) := by decide +kernel
theorem dX7_quotient_14 : decode cX7_quotient 14 = .ok (.getfield 22, 3) := by decide +kernel
theorem dX7_quotient_17 : decode cX7_quotient 17 = .ok (.getfield 173, 3) := by decide +kernel
theorem dX7_quotient_20 : decode cX7_quotient 20 = .ok (.ifCond .ne 13, 3) := by decide +kernel
theorem dX7_quotient_23 : decode cX7_quotient 23 = .ok (.new 134, 3) := by decide +kernel
theorem dX7_quotient_26 : decode cX7_quotient 26 = .ok (.dup, 1) := by decide +kernel
theorem dX7_quotient_27 : decode cX7_quotient 27 = .ok (.ldc 205, 2) := by decide +kernel
theorem dX7_quotient_29 : decode cX7_quotient 29 = .ok (.invokespecial 138, 3) := by decide +kernel
theorem dX7_quotient_32 : decode cX7_quotient 32 = .ok (.athrow, 1) := by decide +kernel
theorem dX7_quotient_33 : decode cX7_quotient 33 = .ok (.aload_n 0, 1) := by decide +kernel
theorem dX7_quotient_34 : decode cX7_quotient 34 = .ok (.getfield 44, 3) := by decide +kernel
theorem dX7_quotient_37 : decode cX7_quotient 37 = .ok (.aload_n 0, 1) := by decide +kernel
theorem dX7_quotient_38 : decode cX7_quotient 38 = .ok (.getfield 22, 3) := by decide +kernel
theorem dX7_quotient_41 : decode cX7_quotient 41 = .ok (.getfield 181, 3) := by decide +kernel
theorem dX7_quotient_44 : decode cX7_quotient 44 = .ok (.iload_n 2, 1) := by decide +kernel
theorem dX7_quotient_45 : decode cX7_quotient 45 = .ok (.invokestatic 71, 3) := by decide +kernel
theorem dX7_quotient_48 : decode cX7_quotient 48 = .ok (.invokevirtual 207, 3) := by decide +kernel
theorem dX7_quotient_51 : decode cX7_quotient 51 = .ok (.aload_n 0, 1) := by decide +kernel
theorem dX7_quotient_52 : decode cX7_quotient 52 = .ok (.getfield 48, 3) := by decide +kernel
theorem dX7_quotient_55 : decode cX7_quotient 55 = .ok (.aload_n 0, 1) := by decide +kernel
theorem dX7_quotient_56 : decode cX7_quotient 56 = .ok (.getfield 22, 3) := by decide +kernel
theorem dX7_quotient_59 : decode cX7_quotient 59 = .ok (.getfield 177, 3) := by decide +kernel
theorem dX7_quotient_62 : decode cX7_quotient 62 = .ok (.iload_n 2, 1) := by decide +kernel
theorem dX7_quotient_63 : decode cX7_quotient 63 = .ok (.invokestatic 71, 3) := by decide +kernel
theorem dX7_quotient_66 : decode cX7_quotient 66 = .ok (.invokevirtual 207, 3) := by decide +kernel
theorem dX7_quotient_69 : decode cX7_quotient 69 = .ok (.iconst 0, 1) := by decide +kernel
theorem dX7_quotient_70 : decode cX7_quotient 70 = .ok (.istore 4, 2) := by decide +kernel
theorem dX7_quotient_72 : decode cX7_quotient 72 = .ok (.iload 4, 2) := by decide +kernel
theorem dX7_quotient_74 : decode cX7_quotient 74 = .ok (.iload_n 3, 1) := by decide +kernel
theorem dX7_quotient_75 : decode cX7_quotient 75 = .ok (.if_icmp .ge 30, 3) := by decide +kernel
theorem dX7_quotient_78 : decode cX7_quotient 78 = .ok (.aload_n 0, 1) := by decide +kernel
theorem dX7_quotient_79 : decode cX7_quotient 79 = .ok (.invokevirtual 208, 3) := by decide +kernel
theorem dX7_quotient_82 : decode cX7_quotient 82 = .ok (.ifCond .eq 23, 3) := by decide +kernel
theorem dX7_quotient_85 : decode cX7_quotient 85 = .ok (.aload_n 0, 1) := by decide +kernel
theorem dX7_quotient_86 : decode cX7_quotient 86 = .ok (.getfield 44, 3) := by decide +kernel
theorem dX7_quotient_89 : decode cX7_quotient 89 = .ok (.invokevirtual 212, 3) := by decide +kernel
theorem dX7_quotient_92 : decode cX7_quotient 92 = .ok (.aload_n 0, 1) := by decide +kernel
theorem dX7_quotient_93 : decode cX7_quotient 93 = .ok (.getfield 48, 3) := by decide +kernel
theorem dX7_quotient_96 : decode cX7_quotient 96 = .ok (.invokevirtual 212, 3) := by decide +kernel
theorem dX7_quotient_99 : decode cX7_quotient 99 = .ok (.iinc 4 1, 3) := by decide +kernel
theorem dX7_quotient_102 : decode cX7_quotient 102 = .ok (.goto (-30), 3) := by decide +kernel
theorem dX7_quotient_105 : decode cX7_quotient 105 = .ok (.aload_n 0, 1) := by decide +kernel
theorem dX7_quotient_106 : decode cX7_quotient 106 = .ok (.invokevirtual 208, 3) := by decide +kernel
theorem dX7_quotient_109 : decode cX7_quotient 109 = .ok (.ifCond .ne 13, 3) := by decide +kernel
theorem dX7_quotient_112 : decode cX7_quotient 112 = .ok (.new 134, 3) := by decide +kernel
theorem dX7_quotient_115 : decode cX7_quotient 115 = .ok (.dup, 1) := by decide +kernel
theorem dX7_quotient_116 : decode cX7_quotient 116 = .ok (.ldc 215, 2) := by decide +kernel
theorem dX7_quotient_118 : decode cX7_quotient 118 = .ok (.invokespecial 138, 3) := by decide +kernel
theorem dX7_quotient_121 : decode cX7_quotient 121 = .ok (.athrow, 1) := by decide +kernel
theorem dX7_quotient_122 : decode cX7_quotient 122 = .ok (.aload_n 0, 1) := by decide +kernel
theorem dX7_quotient_123 : decode cX7_quotient 123 = .ok (.getfield 44, 3) := by decide +kernel
theorem dX7_quotient_126 : decode cX7_quotient 126 = .ok (.invokevirtual 217, 3) := by decide +kernel
theorem dX7_quotient_129 : decode cX7_quotient 129 = .ok (.l2i, 1) := by decide +kernel
theorem dX7_quotient_130 : decode cX7_quotient 130 = .ok (.ireturn, 1) := by decide +kernel
set_option maxRecDepth 20000 in
theorem ggX7_next_X7_existing : GoodIn wsX7_next wsX7_existing := goodIn_ca (goodIn_r _ [10, 11, 12, 13, 14, 55, 56, 57, 58, 59, 60, 61, 62] (by decide +kernel) (by decide +kernel)) (goodIn_sub (fun _ h => List.mem_cons_of_mem _ (List.mem_append_right _ h)) (by decide +kernel))
set_option maxRecDepth 20000 in
theorem gX7_next_X7_existing : GoodIn wsX7_next (wsV RX7 148 RX7 yX7_existing wsX7_existing) := goodIn_app (goodIn_of _ (by decide +kernel)) ggX7_next_X7_existing
set_option maxRecDepth 20000 in
theorem ggX7_next_X7_digitAt : GoodIn wsX7_next wsX7_digitAt := goodIn_r _ [18, 19, 20, 21, 3, 22, 5, 23, 4, 24, 25, 26, 27, 28, 29, 30, 31, 32, 33, 34, 35, 36, 37, 38, 39, 40, 41, 42, 43, 44, 45, 9, 46, 47, 48, 49, 50, 51, 52, 53, 54, 55, 56, 57, 58, 59, 60, 61, 62, 63, 64, 65, 66, 67, 68] (by decide +kernel) (by decide +kernel)
set_option maxRecDepth 20000 in
theorem gX7_next_X7_digitAt : GoodIn wsX7_next (wsV RX7 225 RX7 yX7_digitAt wsX7_digitAt) := goodIn_app (goodIn_of _ (by decide +kernel)) ggX7_next_X7_digitAt
theorem dX7_next_0 : decode cX7_next 0 = .ok (.aload_n 0, 1) := by decide +kernel
theorem dX7_next_1 : decode cX7_next 1 = .ok (.iload_n 1, 1) := by decide +kernel
theorem dX7_next_2 : decode cX7_next 2 = .ok (.invokevirtual 148, 3) := by decide +kernel
theorem dX7_next_5 : decode cX7_next 5 = .ok (.astore_n 2, 1) := by decide +kernel
theorem dX7_next_6 : decode cX7_next 6 = .ok (.aload_n 2, 1) := by decide +kernel
theorem dX7_next_7 : decode cX7_next 7 = .ok (.getfield 220, 3) := by decide +kernel
theorem dX7_next_10 : decode cX7_next 10 = .ok (.bipush 24, 2) := by decide +kernel
theorem dX7_next_12 : decode cX7_next 12 = .ok (.if_icmp .lt 13, 3) := by decide +kernel
theorem dX7_next_15 : decode cX7_next 15 = .ok (.new 134, 3) := by decide +kernel
theorem dX7_next_18 : decode cX7_next 18 = .ok (.dup, 1) := by decide +kernel
theorem dX7_next_19 : decode cX7_next 19 = .ok (.ldc 223, 2) := by decide +kernel
theorem dX7_next_21 : decode cX7_next 21 = .ok (.invokespecial 138, 3) := by decide +kernel
theorem dX7_next_24 : decode cX7_next 24 = .ok (.athrow, 1) := by decide +kernel
theorem dX7_next_25 : decode cX7_next 25 = .ok (.aload_n 2, 1) := by decide +kernel
theorem dX7_next_26 : decode cX7_next 26 = .ok (.getfield 220, 3) := by decide +kernel
theorem dX7_next_29 : decode cX7_next 29 = .ok (.iconst 1, 1) := by decide +kernel
theorem dX7_next_30 : decode cX7_next 30 = .ok (.iadd, 1) := by decide +kernel
theorem dX7_next_31 : decode cX7_next 31 = .ok (.istore_n 3, 1) := by decide +kernel
theorem dX7_next_32 : decode cX7_next 32 = .ok (.iload_n 3, 1) := by decide +kernel
theorem dX7_next_33 : decode cX7_next 33 = .ok (.bipush 24, 2) := by decide +kernel
theorem dX7_next_35 : decode cX7_next 35 = .ok (.if_icmp .gt 52, 3) := by decide +kernel
theorem dX7_next_38 : decode cX7_next 38 = .ok (.aload_n 0, 1) := by decide +kernel
theorem dX7_next_39 : decode cX7_next 39 = .ok (.aload_n 2, 1) := by decide +kernel
theorem dX7_next_40 : decode cX7_next 40 = .ok (.iload_n 3, 1) := by decide +kernel
theorem dX7_next_41 : decode cX7_next 41 = .ok (.invokevirtual 225, 3) := by decide +kernel
theorem dX7_next_44 : decode cX7_next 44 = .ok (.istore 4, 2) := by decide +kernel
theorem dX7_next_46 : decode cX7_next 46 = .ok (.iload 4, 2) := by decide +kernel
theorem dX7_next_48 : decode cX7_next 48 = .ok (.iconst 2, 1) := by decide +kernel
theorem dX7_next_49 : decode cX7_next 49 = .ok (.if_icmp .eq 32, 3) := by decide +kernel
theorem dX7_next_52 : decode cX7_next 52 = .ok (.aload_n 2, 1) := by decide +kernel
theorem dX7_next_53 : decode cX7_next 53 = .ok (.dup, 1) := by decide +kernel
theorem dX7_next_54 : decode cX7_next 54 = .ok (.getfield 220, 3) := by decide +kernel
theorem dX7_next_57 : decode cX7_next 57 = .ok (.iconst 1, 1) := by decide +kernel
theorem dX7_next_58 : decode cX7_next 58 = .ok (.iadd, 1) := by decide +kernel
theorem dX7_next_59 : decode cX7_next 59 = .ok (.putfield 220, 3) := by decide +kernel
theorem dX7_next_62 : decode cX7_next 62 = .ok (.aload_n 2, 1) := by decide +kernel
theorem dX7_next_63 : decode cX7_next 63 = .ok (.ldc2_w 229, 3) := by decide +kernel
theorem dX7_next_66 : decode cX7_next 66 = .ok (.aload_n 2, 1) := by decide +kernel
theorem dX7_next_67 : decode cX7_next 67 = .ok (.getfield 231, 3) := by decide +kernel
theorem dX7_next_70 : decode cX7_next 70 = .ok (.lmul, 1) := by decide +kernel
theorem dX7_next_71 : decode cX7_next 71 = .ok (.iload 4, 2) := by decide +kernel
theorem dX7_next_73 : decode cX7_next 73 = .ok (.i2l, 1) := by decide +kernel
theorem dX7_next_74 : decode cX7_next 74 = .ok (.ladd, 1) := by decide +kernel
theorem dX7_next_75 : decode cX7_next 75 = .ok (.putfield 231, 3) := by decide +kernel
theorem dX7_next_78 : decode cX7_next 78 = .ok (.iload 4, 2) := by decide +kernel
theorem dX7_next_80 : decode cX7_next 80 = .ok (.ireturn, 1) := by decide +kernel
theorem dX7_next_81 : decode cX7_next 81 = .ok (.iinc 3 1, 3) := by decide +kernel
theorem dX7_next_84 : decode cX7_next 84 = .ok (.goto (-52), 3) := by decide +kernel
theorem dX7_next_87 : decode cX7_next 87 = .ok (.new 134, 3) := by decide +kernel
theorem dX7_next_90 : decode cX7_next 90 = .ok (.dup, 1) := by decide +kernel
theorem dX7_next_91 : decode cX7_next 91 = .ok (.ldc 234, 2) := by decide +kernel
theorem dX7_next_93 : decode cX7_next 93 = .ok (.invokespecial 138, 3) := by decide +kernel
theorem dX7_next_96 : decode cX7_next 96 = .ok (.athrow, 1) := by decide +kernel
set_option maxRecDepth 20000 in
theorem ggX7_emitted_X7_existing : GoodIn wsX7_emitted wsX7_existing := goodIn_ca (goodIn_r _ [6, 7, 8, 9, 10, 19, 20, 21, 22, 23, 24, 25, 26] (by decide +kernel) (by decide +kernel)) (goodIn_sub (fun _ h => List.mem_cons_of_mem _ (List.mem_append_right _ h)) (by decide +kernel))
set_option maxRecDepth 20000 in
theorem gX7_emitted_X7_existing : GoodIn wsX7_emitted (wsV RX7 148 RX7 yX7_existing wsX7_existing) := goodIn_app (goodIn_of _ (by decide +kernel)) ggX7_emitted_X7_existing
theorem dX7_emitted_0 : decode cX7_emitted 0 = .ok (.aload_n 0, 1) := by decide +kernel
theorem dX7_emitted_1 : decode cX7_emitted 1 = .ok (.iload_n 1, 1) := by decide +kernel
theorem dX7_emitted_2 : decode cX7_emitted 2 = .ok (.invokevirtual 148, 3) := by decide +kernel
theorem dX7_emitted_5 : decode cX7_emitted 5 = .ok (.getfield 220, 3) := by decide +kernel
theorem dX7_emitted_8 : decode cX7_emitted 8 = .ok (.ireturn, 1) := by decide +kernel
set_option maxRecDepth 20000 in
theorem ggX7_partial_X7_existing : GoodIn wsX7_partial wsX7_existing := goodIn_ca (goodIn_r _ [6, 7, 8, 9, 10, 19, 20, 21, 22, 23, 24, 25, 26] (by decide +kernel) (by decide +kernel)) (goodIn_sub (fun _ h => List.mem_cons_of_mem _ (List.mem_append_right _ h)) (by decide +kernel))
set_option maxRecDepth 20000 in
theorem gX7_partial_X7_existing : GoodIn wsX7_partial (wsV RX7 148 RX7 yX7_existing wsX7_existing) := goodIn_app (goodIn_of _ (by decide +kernel)) ggX7_partial_X7_existing
theorem dX7_partial_0 : decode cX7_partial 0 = .ok (.aload_n 0, 1) := by decide +kernel
theorem dX7_partial_1 : decode cX7_partial 1 = .ok (.iload_n 1, 1) := by decide +kernel
theorem dX7_partial_2 : decode cX7_partial 2 = .ok (.invokevirtual 148, 3) := by decide +kernel
theorem dX7_partial_5 : decode cX7_partial 5 = .ok (.getfield 231, 3) := by decide +kernel
theorem dX7_partial_8 : decode cX7_partial 8 = .ok (.lreturn, 1) := by decide +kernel
set_option maxRecDepth 20000 in
theorem ggX7_restart_X7_existing : GoodIn wsX7_restart wsX7_existing := goodIn_ca (goodIn_r _ [7, 8, 9, 10, 11, 20, 21, 22, 23, 24, 25, 26, 27] (by decide +kernel) (by decide +kernel)) (goodIn_sub (fun _ h => List.mem_cons_of_mem _ (List.mem_append_right _ h)) (by decide +kernel))
set_option maxRecDepth 20000 in
theorem gX7_restart_X7_existing : GoodIn wsX7_restart (wsV RX7 148 RX7 yX7_existing wsX7_existing) := goodIn_app (goodIn_of _ (by decide +kernel)) ggX7_restart_X7_existing
theorem dX7_restart_0 : decode cX7_restart 0 = .ok (.aload_n 0, 1) := by decide +kernel
theorem dX7_restart_1 : decode cX7_restart 1 = .ok (.iload_n 1, 1) := by decide +kernel
theorem dX7_restart_2 : decode cX7_restart 2 = .ok (.invokevirtual 148, 3) := by decide +kernel
theorem dX7_restart_5 : decode cX7_restart 5 = .ok (.astore_n 2, 1) := by decide +kernel
theorem dX7_restart_6 : decode cX7_restart 6 = .ok (.aload_n 2, 1) := by decide +kernel
theorem dX7_restart_7 : decode cX7_restart 7 = .ok (.getfield 220, 3) := by decide +kernel
theorem dX7_restart_10 : decode cX7_restart 10 = .ok (.istore_n 3, 1) := by decide +kernel
theorem dX7_restart_11 : decode cX7_restart 11 = .ok (.aload_n 2, 1) := by decide +kernel
theorem dX7_restart_12 : decode cX7_restart 12 = .ok (.iconst 0, 1) := by decide +kernel
theorem dX7_restart_13 : decode cX7_restart 13 = .ok (.putfield 220, 3) := by decide +kernel
theorem dX7_restart_16 : decode cX7_restart 16 = .ok (.aload_n 2, 1) := by decide +kernel
theorem dX7_restart_17 : decode cX7_restart 17 = .ok (.lconst 0, 1) := by decide +kernel
theorem dX7_restart_18 : decode cX7_restart 18 = .ok (.putfield 231, 3) := by decide +kernel
theorem dX7_restart_21 : decode cX7_restart 21 = .ok (.iload_n 3, 1) := by decide +kernel
theorem dX7_restart_22 : decode cX7_restart 22 = .ok (.ireturn, 1) := by decide +kernel
theorem dX7_count_0 : decode cX7_count 0 = .ok (.aload_n 0, 1) := by decide +kernel
theorem dX7_count_1 : decode cX7_count 1 = .ok (.getfield 15, 3) := by decide +kernel
theorem dX7_count_4 : decode cX7_count 4 = .ok (.ireturn, 1) := by decide +kernel
set_option maxRecDepth 20000 in
theorem ggX7_needs_X7_existing : GoodIn wsX7_needs wsX7_existing := goodIn_ca (goodIn_r _ [6, 7, 8, 9, 10, 26, 27, 28, 29, 30, 31, 32, 33] (by decide +kernel) (by decide +kernel)) (goodIn_sub (fun _ h => List.mem_cons_of_mem _ (List.mem_append_right _ h)) (by decide +kernel))
set_option maxRecDepth 20000 in
theorem gX7_needs_X7_existing : GoodIn wsX7_needs (wsV RX7 148 RX7 yX7_existing wsX7_existing) := goodIn_app (goodIn_of _ (by decide +kernel)) ggX7_needs_X7_existing
set_option maxRecDepth 20000 in
theorem ggX7_needs_J13_bitCount_95d88 : GoodIn wsX7_needs wsJ13_bitCount_95d88 := goodIn_r _ [14, 15, 16, 17] (by decide +kernel) (by decide +kernel)
set_option maxRecDepth 20000 in
theorem gX7_needs_J13_bitCount_95d88 : GoodIn wsX7_needs (va_wsS RX7 239 yJ13_bitCount_95d88 wsJ13_bitCount_95d88) := goodIn_app (goodIn_of _ (by decide +kernel)) ggX7_needs_J13_bitCount_95d88
theorem dX7_needs_0 : decode cX7_needs 0 = .ok (.aload_n 0, 1) := by decide +kernel
theorem dX7_needs_1 : decode cX7_needs 1 = .ok (.iload_n 1, 1) := by decide +kernel
theorem dX7_needs_2 : decode cX7_needs 2 = .ok (.invokevirtual 148, 3) := by decide +kernel
theorem dX7_needs_5 : decode cX7_needs 5 = .ok (.getfield 236, 3) := by decide +kernel
theorem dX7_needs_8 : decode cX7_needs 8 = .ok (.invokestatic 239, 3) := by decide +kernel
theorem dX7_needs_11 : decode cX7_needs 11 = .ok (.ireturn, 1) := by decide +kernel
theorem dX7_requireWithin_0 : decode cX7_requireWithin 0 = .ok (.iload_n 0, 1) := by decide +kernel
theorem dX7_requireWithin_1 : decode cX7_requireWithin 1 = .ok (.iload_n 1, 1) := by decide +kernel
theorem dX7_requireWithin_2 : decode cX7_requireWithin 2 = .ok (.if_icmp .lt 8, 3) := by decide +kernel
theorem dX7_requireWithin_5 : decode cX7_requireWithin 5 = .ok (.iload_n 0, 1) := by decide +kernel
theorem dX7_requireWithin_6 : decode cX7_requireWithin 6 = .ok (.iload_n 2, 1) := by decide +kernel
theorem dX7_requireWithin_7 : decode cX7_requireWithin 7 = .ok (.if_icmp .le 13, 3) := by decide +kernel
theorem dX7_requireWithin_10 : decode cX7_requireWithin 10 = .ok (.new 245, 3) := by decide +kernel
theorem dX7_requireWithin_13 : decode cX7_requireWithin 13 = .ok (.dup, 1) := by decide +kernel
theorem dX7_requireWithin_14 : decode cX7_requireWithin 14 = .ok (.ldc 247, 2) := by decide +kernel
theorem dX7_requireWithin_16 : decode cX7_requireWithin 16 = .ok (.invokespecial 249, 3) := by decide +kernel
theorem dX7_requireWithin_19 : decode cX7_requireWithin 19 = .ok (.athrow, 1) := by decide +kernel
theorem dX7_requireWithin_20 : decode cX7_requireWithin 20 = .ok (.return_, 1) := by decide +kernel
theorem dX7_requireRoom_0 : decode cX7_requireRoom 0 = .ok (.aload_n 0, 1) := by decide +kernel
theorem dX7_requireRoom_1 : decode cX7_requireRoom 1 = .ok (.getfield 15, 3) := by decide +kernel
theorem dX7_requireRoom_4 : decode cX7_requireRoom 4 = .ok (.aload_n 0, 1) := by decide +kernel
theorem dX7_requireRoom_5 : decode cX7_requireRoom 5 = .ok (.getfield 11, 3) := by decide +kernel
theorem dX7_requireRoom_8 : decode cX7_requireRoom 8 = .ok (.arraylength, 1) := by decide +kernel
theorem dX7_requireRoom_9 : decode cX7_requireRoom 9 = .ok (.if_icmp .lt 13, 3) := by decide +kernel
theorem dX7_requireRoom_12 : decode cX7_requireRoom 12 = .ok (.new 134, 3) := by decide +kernel
theorem dX7_requireRoom_15 : decode cX7_requireRoom 15 = .ok (.dup, 1) := by decide +kernel
theorem dX7_requireRoom_16 : decode cX7_requireRoom 16 = .ok (.ldc 250, 2) := by decide +kernel
theorem dX7_requireRoom_18 : decode cX7_requireRoom 18 = .ok (.invokespecial 138, 3) := by decide +kernel
theorem dX7_requireRoom_21 : decode cX7_requireRoom 21 = .ok (.athrow, 1) := by decide +kernel
theorem dX7_requireRoom_22 : decode cX7_requireRoom 22 = .ok (.return_, 1) := by decide +kernel
theorem dX7_existing_0 : decode cX7_existing 0 = .ok (.iload_n 1, 1) := by decide +kernel
theorem dX7_existing_1 : decode cX7_existing 1 = .ok (.ifCond .lt 20, 3) := by decide +kernel
theorem dX7_existing_4 : decode cX7_existing 4 = .ok (.iload_n 1, 1) := by decide +kernel
theorem dX7_existing_5 : decode cX7_existing 5 = .ok (.aload_n 0, 1) := by decide +kernel
theorem dX7_existing_6 : decode cX7_existing 6 = .ok (.getfield 15, 3) := by decide +kernel
theorem dX7_existing_9 : decode cX7_existing 9 = .ok (.if_icmp .ge 12, 3) := by decide +kernel
theorem dX7_existing_12 : decode cX7_existing 12 = .ok (.iload_n 1, 1) := by decide +kernel
theorem dX7_existing_13 : decode cX7_existing 13 = .ok (.aload_n 0, 1) := by decide +kernel
theorem dX7_existing_14 : decode cX7_existing 14 = .ok (.getfield 11, 3) := by decide +kernel
theorem dX7_existing_17 : decode cX7_existing 17 = .ok (.arraylength, 1) := by decide +kernel
theorem dX7_existing_18 : decode cX7_existing 18 = .ok (.if_icmp .lt 13, 3) := by decide +kernel
theorem dX7_existing_21 : decode cX7_existing 21 = .ok (.new 252, 3) := by decide +kernel
theorem dX7_existing_24 : decode cX7_existing 24 = .ok (.dup, 1) := by decide +kernel
theorem dX7_existing_25 : decode cX7_existing 25 = .ok (.ldc 254, 2) := by decide +kernel
theorem dX7_existing_27 : decode cX7_existing 27 = .ok (.invokespecial 256, 3) := by decide +kernel
theorem dX7_existing_30 : decode cX7_existing 30 = .ok (.athrow, 1) := by decide +kernel
theorem dX7_existing_31 : decode cX7_existing 31 = .ok (.aload_n 0, 1) := by decide +kernel
theorem dX7_existing_32 : decode cX7_existing 32 = .ok (.getfield 11, 3) := by decide +kernel
theorem dX7_existing_35 : decode cX7_existing 35 = .ok (.iload_n 1, 1) := by decide +kernel
theorem dX7_existing_36 : decode cX7_existing 36 = .ok (.aaload, 1) := by decide +kernel
theorem dX7_existing_37 : decode cX7_existing 37 = .ok (.astore_n 2, 1) := by decide +kernel
theorem dX7_existing_38 : decode cX7_existing 38 = .ok (.aload_n 2, 1) := by decide +kernel
theorem dX7_existing_39 : decode cX7_existing 39 = .ok (.ifnonnull 13, 3) := by decide +kernel
theorem dX7_existing_42 : decode cX7_existing 42 = .ok (.new 252, 3) := by decide +kernel
theorem dX7_existing_45 : decode cX7_existing 45 = .ok (.dup, 1) := by decide +kernel
theorem dX7_existing_46 : decode cX7_existing 46 = .ok (.ldc 254, 2) := by decide +kernel
theorem dX7_existing_48 : decode cX7_existing 48 = .ok (.invokespecial 256, 3) := by decide +kernel
theorem dX7_existing_51 : decode cX7_existing 51 = .ok (.athrow, 1) := by decide +kernel
theorem dX7_existing_52 : decode cX7_existing 52 = .ok (.aload_n 2, 1) := by decide +kernel
theorem dX7_existing_53 : decode cX7_existing 53 = .ok (.areturn, 1) := by decide +kernel
set_option maxRecDepth 20000 in
theorem ggX7_loadTold_X7_existing : GoodIn wsX7_loadTold wsX7_existing := goodIn_ca (goodIn_r _ [7, 8, 9, 10, 11, 45, 46, 47, 48, 49, 50, 51, 52] (by decide +kernel) (by decide +kernel)) (goodIn_sub (fun _ h => List.mem_cons_of_mem _ (List.mem_append_left _ (List.mem_append_right _ h))) (by decide +kernel))
set_option maxRecDepth 20000 in
theorem gX7_loadTold_X7_existing : GoodIn wsX7_loadTold (wsV RX7 148 RX7 yX7_existing wsX7_existing) := goodIn_app (goodIn_of _ (by decide +kernel)) ggX7_loadTold_X7_existing
set_option maxRecDepth 20000 in
theorem ggX7_loadTold_X7_requireWithin : GoodIn wsX7_loadTold wsX7_requireWithin := goodIn_ca (goodIn_r _ [14, 15, 16] (by decide +kernel) (by decide +kernel)) (goodIn_sub (fun _ h => List.mem_cons_of_mem _ (List.mem_append_right _ h)) (by decide +kernel))
set_option maxRecDepth 20000 in
theorem gX7_loadTold_X7_requireWithin : GoodIn wsX7_loadTold (va_wsS RX7 51 yX7_requireWithin wsX7_requireWithin) := goodIn_app (goodIn_of _ (by decide +kernel)) ggX7_loadTold_X7_requireWithin
set_option maxRecDepth 20000 in
theorem ggX7_loadTold_X6_load : GoodIn wsX7_loadTold wsX6_load := goodIn_r _ [21, 22, 23, 24, 25, 26, 27, 28, 29, 30, 31, 32, 33, 34, 35, 36, 53, 54, 55, 56, 57, 58] (by decide +kernel) (by decide +kernel)
set_option maxRecDepth 20000 in
theorem gX7_loadTold_X6_load : GoodIn wsX7_loadTold (wsV RX7 152 RX6 yX6_load wsX6_load) := goodIn_app (goodIn_of _ (by decide +kernel)) ggX7_loadTold_X6_load
theorem dX7_loadTold_0 : decode cX7_loadTold 0 = .ok (.aload_n 0, 1) := by decide +kernel
theorem dX7_loadTold_1 : decode cX7_loadTold 1 = .ok (.iload_n 1, 1) := by decide +kernel
theorem dX7_loadTold_2 : decode cX7_loadTold 2 = .ok (.invokevirtual 148, 3) := by decide +kernel
theorem dX7_loadTold_5 : decode cX7_loadTold 5 = .ok (.astore_n 3, 1) := by decide +kernel
theorem dX7_loadTold_6 : decode cX7_loadTold 6 = .ok (.iload_n 2, 1) := by decide +kernel
theorem dX7_loadTold_7 : decode cX7_loadTold 7 = .ok (.iconst 0, 1) := by decide +kernel
theorem dX7_loadTold_8 : decode cX7_loadTold 8 = .ok (.bipush 24, 2) := by decide +kernel
theorem dX7_loadTold_10 : decode cX7_loadTold 10 = .ok (.invokestatic 51, 3) := by decide +kernel
theorem dX7_loadTold_13 : decode cX7_loadTold 13 = .ok (.aload_n 3, 1) := by decide +kernel
theorem dX7_loadTold_14 : decode cX7_loadTold 14 = .ok (.getfield 170, 3) := by decide +kernel
theorem dX7_loadTold_17 : decode cX7_loadTold 17 = .ok (.iload_n 2, 1) := by decide +kernel
theorem dX7_loadTold_18 : decode cX7_loadTold 18 = .ok (.aload_n 0, 1) := by decide +kernel
theorem dX7_loadTold_19 : decode cX7_loadTold 19 = .ok (.getfield 22, 3) := by decide +kernel
theorem dX7_loadTold_22 : decode cX7_loadTold 22 = .ok (.invokevirtual 152, 3) := by decide +kernel
theorem dX7_loadTold_25 : decode cX7_loadTold 25 = .ok (.return_, 1) := by decide +kernel
theorem dX7_endOfAnswer_0 : decode cX7_endOfAnswer 0 = .ok (.aload_n 0, 1) := by decide +kernel
theorem dX7_endOfAnswer_1 : decode cX7_endOfAnswer 1 = .ok (.getfield 22, 3) := by decide +kernel
theorem dX7_endOfAnswer_4 : decode cX7_endOfAnswer 4 = .ok (.getfield 173, 3) := by decide +kernel
theorem dX7_endOfAnswer_7 : decode cX7_endOfAnswer 7 = .ok (.ifCond .ne 14, 3) := by decide +kernel
theorem dX7_endOfAnswer_10 : decode cX7_endOfAnswer 10 = .ok (.new 134, 3) := by decide +kernel
theorem dX7_endOfAnswer_13 : decode cX7_endOfAnswer 13 = .ok (.dup, 1) := by decide +kernel
theorem dX7_endOfAnswer_14 : decode cX7_endOfAnswer 14 = .ok (.ldc_w 257, 3) := by decide +kernel
theorem dX7_endOfAnswer_17 : decode cX7_endOfAnswer 17 = .ok (.invokespecial 138, 3) := by decide +kernel
theorem dX7_endOfAnswer_20 : decode cX7_endOfAnswer 20 = .ok (.athrow, 1) := by decide +kernel
theorem dX7_endOfAnswer_21 : decode cX7_endOfAnswer 21 = .ok (.iload_n 1, 1) := by decide +kernel
theorem dX7_endOfAnswer_22 : decode cX7_endOfAnswer 22 = .ok (.ifCond .eq 13, 3) := by decide +kernel
theorem dX7_endOfAnswer_25 : decode cX7_endOfAnswer 25 = .ok (.aload_n 0, 1) := by decide +kernel
theorem dX7_endOfAnswer_26 : decode cX7_endOfAnswer 26 = .ok (.getfield 22, 3) := by decide +kernel
theorem dX7_endOfAnswer_29 : decode cX7_endOfAnswer 29 = .ok (.getfield 177, 3) := by decide +kernel
theorem dX7_endOfAnswer_32 : decode cX7_endOfAnswer 32 = .ok (.goto 10, 3) := by decide +kernel
theorem dX7_endOfAnswer_35 : decode cX7_endOfAnswer 35 = .ok (.aload_n 0, 1) := by decide +kernel
theorem dX7_endOfAnswer_36 : decode cX7_endOfAnswer 36 = .ok (.getfield 22, 3) := by decide +kernel
theorem dX7_endOfAnswer_39 : decode cX7_endOfAnswer 39 = .ok (.getfield 181, 3) := by decide +kernel
theorem dX7_endOfAnswer_42 : decode cX7_endOfAnswer 42 = .ok (.lreturn, 1) := by decide +kernel
theorem dX7_ownBit_0 : decode cX7_ownBit 0 = .ok (.lconst 1, 1) := by decide +kernel
theorem dX7_ownBit_1 : decode cX7_ownBit 1 = .ok (.aload_n 0, 1) := by decide +kernel
theorem dX7_ownBit_2 : decode cX7_ownBit 2 = .ok (.getfield 15, 3) := by decide +kernel
theorem dX7_ownBit_5 : decode cX7_ownBit 5 = .ok (.lshl, 1) := by decide +kernel
theorem dX7_ownBit_6 : decode cX7_ownBit 6 = .ok (.lreturn, 1) := by decide +kernel
set_option maxRecDepth 20000 in
theorem ggX7_make_X7_existing : GoodIn wsX7_make wsX7_existing := goodIn_ca (goodIn_r _ [13, 14, 15, 16, 17, 159, 160, 161, 162, 163, 164, 165, 166] (by decide +kernel) (by decide +kernel)) (goodIn_sub (fun _ h => List.mem_cons_of_mem _ (List.mem_append_left _ (List.mem_append_right _ h))) (by decide +kernel))
set_option maxRecDepth 20000 in
theorem gX7_make_X7_existing : GoodIn wsX7_make (wsV RX7 148 RX7 yX7_existing wsX7_existing) := goodIn_app (goodIn_of _ (by decide +kernel)) ggX7_make_X7_existing
set_option maxRecDepth 20000 in
theorem ggX7_make_X7_requireRoom : GoodIn wsX7_make wsX7_requireRoom := goodIn_ca (goodIn_r _ [21, 22, 23, 16, 17, 159, 160, 161, 162, 163, 164, 165, 166] (by decide +kernel) (by decide +kernel)) (goodIn_sub (fun _ h => List.mem_cons_of_mem _ (List.mem_append_right _ h)) (by decide +kernel))
set_option maxRecDepth 20000 in
theorem gX7_make_X7_requireRoom : GoodIn wsX7_make (wsV RX7 55 RX7 yX7_requireRoom wsX7_requireRoom) := goodIn_app (goodIn_of _ (by decide +kernel)) ggX7_make_X7_requireRoom
set_option maxRecDepth 20000 in
theorem ggX7_make_X7_ownBit : GoodIn wsX7_make wsX7_ownBit := goodIn_r _ [27, 16, 159, 160, 161, 162, 163, 164, 165, 166] (by decide +kernel) (by decide +kernel)
set_option maxRecDepth 20000 in
theorem gX7_make_X7_ownBit : GoodIn wsX7_make (wsV RX7 64 RX7 yX7_ownBit wsX7_ownBit) := goodIn_app (goodIn_of _ (by decide +kernel)) ggX7_make_X7_ownBit
set_option maxRecDepth 20000 in
theorem ggX7_make_X5_init : GoodIn wsX7_make wsX5_init := goodIn_r _ [30, 31, 32, 33, 34, 35, 36, 37, 38, 39, 40, 41, 42, 43, 44, 45, 46, 47, 48, 49, 50, 51, 52, 53, 151, 152, 153, 154, 155, 156, 157, 158, 167, 168, 169] (by decide +kernel) (by decide +kernel)
set_option maxRecDepth 20000 in
theorem gX7_make_X5_init : GoodIn wsX7_make (wsX5_init) := ggX7_make_X5_init
set_option maxRecDepth 20000 in
theorem ggX7_make_X6_load : GoodIn wsX7_make wsX6_load := goodIn_r _ [57, 52, 50, 53, 58, 59, 60, 61, 62, 63, 64, 65, 66, 67, 68, 69, 167, 168, 169, 170, 171, 172] (by decide +kernel) (by decide +kernel)
set_option maxRecDepth 20000 in
theorem gX7_make_X6_load : GoodIn wsX7_make (wsV RX7 152 RX6 yX6_load wsX6_load) := goodIn_app (goodIn_of _ (by decide +kernel)) ggX7_make_X6_load
set_option maxRecDepth 20000 in
theorem ggX7_make_X7_combine : GoodIn wsX7_make wsX7_combine := goodIn_r _ [73, 6, 74, 7, 8, 75, 76, 77, 78, 79, 80, 81, 82, 59, 60, 61, 62, 63, 64, 65, 83, 84, 85, 86, 87, 88, 89, 90, 67, 68, 69, 91, 92, 93, 94, 95, 96, 97, 98, 99, 12, 100, 101, 102, 103, 104, 105, 106, 107, 108, 109, 110, 111, 112, 113, 114, 115, 116, 117, 118, 119, 120, 121, 122, 123, 124, 125, 126, 127, 128, 129, 130, 131, 132, 133, 159, 160, 161, 162, 163, 164, 165, 166, 170, 171, 172] (by decide +kernel) (by decide +kernel)
set_option maxRecDepth 20000 in
theorem gX7_make_X7_combine : GoodIn wsX7_make (wsV RX7 259 RX7 yX7_combine wsX7_combine) := goodIn_app (goodIn_of _ (by decide +kernel)) ggX7_make_X7_combine
set_option maxRecDepth 20000 in
theorem ggX7_make_X6_put : GoodIn wsX7_make wsX6_put := goodIn_r _ [137, 52, 50, 138, 139, 53, 140, 167, 168, 169, 170, 171, 172] (by decide +kernel) (by decide +kernel)
set_option maxRecDepth 20000 in
theorem gX7_make_X6_put : GoodIn wsX7_make (wsV RX7 92 RX6 yX6_put wsX6_put) := goodIn_app (goodIn_of _ (by decide +kernel)) ggX7_make_X6_put
set_option maxRecDepth 20000 in
theorem ggX7_make_X7_add : GoodIn wsX7_make wsX7_add := goodIn_r _ [144, 8, 5, 6, 145, 16, 17, 82, 59, 60, 61, 62, 63, 64, 65, 54, 55, 56, 40, 57, 52, 50, 53, 58, 66, 67, 68, 69, 146, 147, 148, 149, 150, 98, 79, 80, 81, 95, 96, 97, 109, 134, 135, 136, 137, 138, 139, 140, 159, 160, 161, 162, 163, 164, 165, 166, 151, 152, 153, 154, 155, 156, 157, 158, 170, 171, 172, 167, 168, 169] (by decide +kernel) (by decide +kernel)
set_option maxRecDepth 20000 in
theorem gX7_make_X7_add : GoodIn wsX7_make (wsV RX7 96 RX7 yX7_add wsX7_add) := goodIn_app (goodIn_of _ (by decide +kernel)) ggX7_make_X7_add
theorem dX7_make_0 : decode cX7_make 0 = .ok (.aload_n 0, 1) := by decide +kernel
theorem dX7_make_1 : decode cX7_make 1 = .ok (.iload_n 2, 1) := by decide +kernel
theorem dX7_make_2 : decode cX7_make 2 = .ok (.invokevirtual 148, 3) := by decide +kernel
theorem dX7_make_5 : decode cX7_make 5 = .ok (.astore 4, 2) := by decide +kernel
theorem dX7_make_7 : decode cX7_make 7 = .ok (.aload_n 0, 1) := by decide +kernel
theorem dX7_make_8 : decode cX7_make 8 = .ok (.iload_n 3, 1) := by decide +kernel
theorem dX7_make_9 : decode cX7_make 9 = .ok (.invokevirtual 148, 3) := by decide +kernel
theorem dX7_make_12 : decode cX7_make 12 = .ok (.astore 5, 2) := by decide +kernel
theorem dX7_make_14 : decode cX7_make 14 = .ok (.aload_n 0, 1) := by decide +kernel
theorem dX7_make_15 : decode cX7_make 15 = .ok (.invokevirtual 55, 3) := by decide +kernel
theorem dX7_make_18 : decode cX7_make 18 = .ok (.new 9, 3) := by decide +kernel
theorem dX7_make_21 : decode cX7_make 21 = .ok (.dup, 1) := by decide +kernel
theorem dX7_make_22 : decode cX7_make 22 = .ok (.aload_n 1, 1) := by decide +kernel
theorem dX7_make_23 : decode cX7_make 23 = .ok (.iload_n 2, 1) := by decide +kernel
theorem dX7_make_24 : decode cX7_make 24 = .ok (.iload_n 3, 1) := by decide +kernel
theorem dX7_make_25 : decode cX7_make 25 = .ok (.aload 4, 2) := by decide +kernel
theorem dX7_make_27 : decode cX7_make 27 = .ok (.getfield 236, 3) := by decide +kernel
theorem dX7_make_30 : decode cX7_make 30 = .ok (.aload 5, 2) := by decide +kernel
theorem dX7_make_32 : decode cX7_make 32 = .ok (.getfield 236, 3) := by decide +kernel
theorem dX7_make_35 : decode cX7_make 35 = .ok (.lor, 1) := by decide +kernel
theorem dX7_make_36 : decode cX7_make 36 = .ok (.aload_n 0, 1) := by decide +kernel
theorem dX7_make_37 : decode cX7_make 37 = .ok (.invokevirtual 64, 3) := by decide +kernel
theorem dX7_make_40 : decode cX7_make 40 = .ok (.lor, 1) := by decide +kernel
theorem dX7_make_41 : decode cX7_make 41 = .ok (.invokespecial 68, 3) := by decide +kernel
theorem dX7_make_44 : decode cX7_make 44 = .ok (.astore 6, 2) := by decide +kernel
theorem dX7_make_46 : decode cX7_make 46 = .ok (.iconst 0, 1) := by decide +kernel
theorem dX7_make_47 : decode cX7_make 47 = .ok (.istore 7, 2) := by decide +kernel
theorem dX7_make_49 : decode cX7_make 49 = .ok (.iload 7, 2) := by decide +kernel
theorem dX7_make_51 : decode cX7_make 51 = .ok (.bipush 24, 2) := by decide +kernel
theorem dX7_make_53 : decode cX7_make 53 = .ok (.if_icmp .gt 58, 3) := by decide +kernel
theorem dX7_make_56 : decode cX7_make 56 = .ok (.aload 4, 2) := by decide +kernel
theorem dX7_make_58 : decode cX7_make 58 = .ok (.getfield 89, 3) := by decide +kernel
theorem dX7_make_61 : decode cX7_make 61 = .ok (.iload 7, 2) := by decide +kernel
theorem dX7_make_63 : decode cX7_make 63 = .ok (.aload_n 0, 1) := by decide +kernel
theorem dX7_make_64 : decode cX7_make 64 = .ok (.getfield 26, 3) := by decide +kernel
theorem dX7_make_67 : decode cX7_make 67 = .ok (.invokevirtual 152, 3) := by decide +kernel
theorem dX7_make_70 : decode cX7_make 70 = .ok (.aload 5, 2) := by decide +kernel
theorem dX7_make_72 : decode cX7_make 72 = .ok (.getfield 89, 3) := by decide +kernel
theorem dX7_make_75 : decode cX7_make 75 = .ok (.iload 7, 2) := by decide +kernel
theorem dX7_make_77 : decode cX7_make 77 = .ok (.aload_n 0, 1) := by decide +kernel
theorem dX7_make_78 : decode cX7_make 78 = .ok (.getfield 29, 3) := by decide +kernel
theorem dX7_make_81 : decode cX7_make 81 = .ok (.invokevirtual 152, 3) := by decide +kernel
theorem dX7_make_84 : decode cX7_make 84 = .ok (.aload_n 0, 1) := by decide +kernel
theorem dX7_make_85 : decode cX7_make 85 = .ok (.aload_n 1, 1) := by decide +kernel
theorem dX7_make_86 : decode cX7_make 86 = .ok (.iload 7, 2) := by decide +kernel
theorem dX7_make_88 : decode cX7_make 88 = .ok (.invokevirtual 259, 3) := by decide +kernel
theorem dX7_make_91 : decode cX7_make 91 = .ok (.aload 6, 2) := by decide +kernel
theorem dX7_make_93 : decode cX7_make 93 = .ok (.getfield 89, 3) := by decide +kernel
theorem dX7_make_96 : decode cX7_make 96 = .ok (.iload 7, 2) := by decide +kernel
theorem dX7_make_98 : decode cX7_make 98 = .ok (.aload_n 0, 1) := by decide +kernel
theorem dX7_make_99 : decode cX7_make 99 = .ok (.getfield 22, 3) := by decide +kernel
theorem dX7_make_102 : decode cX7_make 102 = .ok (.invokevirtual 92, 3) := by decide +kernel
theorem dX7_make_105 : decode cX7_make 105 = .ok (.iinc 7 1, 3) := by decide +kernel
theorem dX7_make_108 : decode cX7_make 108 = .ok (.goto (-59), 3) := by decide +kernel
theorem dX7_make_111 : decode cX7_make 111 = .ok (.aload_n 0, 1) := by decide +kernel
theorem dX7_make_112 : decode cX7_make 112 = .ok (.aload 6, 2) := by decide +kernel
theorem dX7_make_114 : decode cX7_make 114 = .ok (.invokevirtual 96, 3) := by decide +kernel
theorem dX7_make_117 : decode cX7_make 117 = .ok (.ireturn, 1) := by decide +kernel
set_option maxRecDepth 20000 in
theorem ggX7_add_X2_clear : GoodIn wsX7_add wsX2_clear := goodIn_r _ [11, 12, 13, 14, 64, 65, 66] (by decide +kernel) (by decide +kernel)
set_option maxRecDepth 20000 in
theorem gX7_add_X2_clear : GoodIn wsX7_add (wsV RX7 263 RX2 yX2_clear wsX2_clear) := goodIn_app (goodIn_of _ (by decide +kernel)) ggX7_add_X2_clear
set_option maxRecDepth 20000 in
theorem ggX7_add_X6_load : GoodIn wsX7_add wsX6_load := goodIn_r _ [19, 20, 21, 22, 23, 8, 9, 10, 11, 12, 13, 14, 24, 25, 26, 27, 67, 68, 69, 64, 65, 66] (by decide +kernel) (by decide +kernel)
set_option maxRecDepth 20000 in
theorem gX7_add_X6_load : GoodIn wsX7_add (wsV RX7 152 RX6 yX6_load wsX6_load) := goodIn_app (goodIn_of _ (by decide +kernel)) ggX7_add_X6_load
set_option maxRecDepth 20000 in
theorem ggX7_add_X2_narrow : GoodIn wsX7_add wsX2_narrow := goodIn_r _ [31, 12, 13, 14, 32, 33, 34, 35, 36, 37, 38, 39, 40, 25, 26, 10, 27, 64, 65, 66] (by decide +kernel) (by decide +kernel)
set_option maxRecDepth 20000 in
theorem gX7_add_X2_narrow : GoodIn wsX7_add (wsV RX7 266 RX2 yX2_narrow wsX2_narrow) := goodIn_app (goodIn_of _ (by decide +kernel)) ggX7_add_X2_narrow
set_option maxRecDepth 20000 in
theorem ggX7_add_X6_put : GoodIn wsX7_add wsX6_put := goodIn_r _ [44, 20, 21, 45, 46, 22, 47, 67, 68, 69, 64, 65, 66] (by decide +kernel) (by decide +kernel)
set_option maxRecDepth 20000 in
theorem gX7_add_X6_put : GoodIn wsX7_add (wsV RX7 92 RX6 yX6_put wsX6_put) := goodIn_app (goodIn_of _ (by decide +kernel)) ggX7_add_X6_put
theorem dX7_add_0 : decode cX7_add 0 = .ok (.aload_n 0, 1) := by decide +kernel
theorem dX7_add_1 : decode cX7_add 1 = .ok (.getfield 22, 3) := by decide +kernel
theorem dX7_add_4 : decode cX7_add 4 = .ok (.invokevirtual 263, 3) := by decide +kernel
theorem dX7_add_7 : decode cX7_add 7 = .ok (.iconst 0, 1) := by decide +kernel
theorem dX7_add_8 : decode cX7_add 8 = .ok (.istore_n 2, 1) := by decide +kernel
theorem dX7_add_9 : decode cX7_add 9 = .ok (.iload_n 2, 1) := by decide +kernel
theorem dX7_add_10 : decode cX7_add 10 = .ok (.bipush 24, 2) := by decide +kernel
theorem dX7_add_12 : decode cX7_add 12 = .ok (.if_icmp .gt 44, 3) := by decide +kernel
theorem dX7_add_15 : decode cX7_add 15 = .ok (.aload_n 1, 1) := by decide +kernel
theorem dX7_add_16 : decode cX7_add 16 = .ok (.getfield 89, 3) := by decide +kernel
theorem dX7_add_19 : decode cX7_add 19 = .ok (.iload_n 2, 1) := by decide +kernel
theorem dX7_add_20 : decode cX7_add 20 = .ok (.aload_n 0, 1) := by decide +kernel
theorem dX7_add_21 : decode cX7_add 21 = .ok (.getfield 26, 3) := by decide +kernel
theorem dX7_add_24 : decode cX7_add 24 = .ok (.invokevirtual 152, 3) := by decide +kernel
theorem dX7_add_27 : decode cX7_add 27 = .ok (.aload_n 0, 1) := by decide +kernel
theorem dX7_add_28 : decode cX7_add 28 = .ok (.getfield 22, 3) := by decide +kernel
theorem dX7_add_31 : decode cX7_add 31 = .ok (.aload_n 0, 1) := by decide +kernel
theorem dX7_add_32 : decode cX7_add 32 = .ok (.getfield 26, 3) := by decide +kernel
theorem dX7_add_35 : decode cX7_add 35 = .ok (.invokevirtual 266, 3) := by decide +kernel
theorem dX7_add_38 : decode cX7_add 38 = .ok (.aload_n 1, 1) := by decide +kernel
theorem dX7_add_39 : decode cX7_add 39 = .ok (.getfield 170, 3) := by decide +kernel
theorem dX7_add_42 : decode cX7_add 42 = .ok (.iload_n 2, 1) := by decide +kernel
theorem dX7_add_43 : decode cX7_add 43 = .ok (.aload_n 0, 1) := by decide +kernel
theorem dX7_add_44 : decode cX7_add 44 = .ok (.getfield 22, 3) := by decide +kernel
theorem dX7_add_47 : decode cX7_add 47 = .ok (.invokevirtual 92, 3) := by decide +kernel
theorem dX7_add_50 : decode cX7_add 50 = .ok (.iinc 2 1, 3) := by decide +kernel
theorem dX7_add_53 : decode cX7_add 53 = .ok (.goto (-44), 3) := by decide +kernel
theorem dX7_add_56 : decode cX7_add 56 = .ok (.aload_n 0, 1) := by decide +kernel
theorem dX7_add_57 : decode cX7_add 57 = .ok (.getfield 15, 3) := by decide +kernel
theorem dX7_add_60 : decode cX7_add 60 = .ok (.istore_n 2, 1) := by decide +kernel
theorem dX7_add_61 : decode cX7_add 61 = .ok (.iload_n 2, 1) := by decide +kernel
theorem dX7_add_62 : decode cX7_add 62 = .ok (.ifCond .lt 29, 3) := by decide +kernel
theorem dX7_add_65 : decode cX7_add 65 = .ok (.iload_n 2, 1) := by decide +kernel
theorem dX7_add_66 : decode cX7_add 66 = .ok (.aload_n 0, 1) := by decide +kernel
theorem dX7_add_67 : decode cX7_add 67 = .ok (.getfield 11, 3) := by decide +kernel
theorem dX7_add_70 : decode cX7_add 70 = .ok (.arraylength, 1) := by decide +kernel
theorem dX7_add_71 : decode cX7_add 71 = .ok (.if_icmp .ge 20, 3) := by decide +kernel
theorem dX7_add_74 : decode cX7_add 74 = .ok (.aload_n 0, 1) := by decide +kernel
theorem dX7_add_75 : decode cX7_add 75 = .ok (.getfield 11, 3) := by decide +kernel
theorem dX7_add_78 : decode cX7_add 78 = .ok (.iload_n 2, 1) := by decide +kernel
theorem dX7_add_79 : decode cX7_add 79 = .ok (.aload_n 1, 1) := by decide +kernel
theorem dX7_add_80 : decode cX7_add 80 = .ok (.aastore, 1) := by decide +kernel
theorem dX7_add_81 : decode cX7_add 81 = .ok (.aload_n 0, 1) := by decide +kernel
theorem dX7_add_82 : decode cX7_add 82 = .ok (.dup, 1) := by decide +kernel
theorem dX7_add_83 : decode cX7_add 83 = .ok (.getfield 15, 3) := by decide +kernel
theorem dX7_add_86 : decode cX7_add 86 = .ok (.iconst 1, 1) := by decide +kernel
theorem dX7_add_87 : decode cX7_add 87 = .ok (.iadd, 1) := by decide +kernel
theorem dX7_add_88 : decode cX7_add 88 = .ok (.putfield 15, 3) := by decide +kernel
theorem dX7_add_91 : decode cX7_add 91 = .ok (.iload_n 2, 1) := by decide +kernel
theorem dX7_add_92 : decode cX7_add 92 = .ok (.ireturn, 1) := by decide +kernel
set_option maxRecDepth 20000 in
theorem ggX7_combine_X2_clear : GoodIn wsX7_combine wsX2_clear := goodIn_r _ [16, 17, 18, 19, 83, 84, 85] (by decide +kernel) (by decide +kernel)
set_option maxRecDepth 20000 in
theorem gX7_combine_X2_clear : GoodIn wsX7_combine (wsV RX7 263 RX2 yX2_clear wsX2_clear) := goodIn_app (goodIn_of _ (by decide +kernel)) ggX7_combine_X2_clear
set_option maxRecDepth 20000 in
theorem ggX7_combine_Jx29ce0_ordinal_8abf5 : GoodIn wsX7_combine wsJx29ce0_ordinal_8abf5 := goodIn_r _ [25, 26] (by decide +kernel) (by decide +kernel)
set_option maxRecDepth 20000 in
theorem gX7_combine_Jx29ce0_ordinal_8abf5_u276X3 : GoodIn wsX7_combine (va_wsU RX7 276 RX3 "java/lang/Enum" ⟨"Nestlimit$Kind", "ordinal", "()I"⟩ yJx29ce0_ordinal_8abf5 wsJx29ce0_ordinal_8abf5) := goodIn_app (goodIn_of _ (by decide +kernel)) ggX7_combine_Jx29ce0_ordinal_8abf5
set_option maxRecDepth 20000 in
theorem ggX7_combine_X2_assign : GoodIn wsX7_combine wsX2_assign := goodIn_r _ [30, 17, 18, 19, 83, 84, 85] (by decide +kernel) (by decide +kernel)
set_option maxRecDepth 20000 in
theorem gX7_combine_X2_assign : GoodIn wsX7_combine (wsV RX7 82 RX2 yX2_assign wsX2_assign) := goodIn_app (goodIn_of _ (by decide +kernel)) ggX7_combine_X2_assign
set_option maxRecDepth 20000 in
theorem ggX7_combine_X2_multiply : GoodIn wsX7_combine wsX2_multiply := goodIn_r _ [34, 18, 19, 35, 36, 10, 37, 38, 9, 11, 39, 40, 41, 42, 43, 44, 45, 46, 47, 48, 49, 50, 28, 29, 15, 30, 17, 83, 84, 85] (by decide +kernel) (by decide +kernel)
set_option maxRecDepth 20000 in
theorem gX7_combine_X2_multiply : GoodIn wsX7_combine (wsV RX7 280 RX2 yX2_multiply wsX2_multiply) := goodIn_app (goodIn_of _ (by decide +kernel)) ggX7_combine_X2_multiply
set_option maxRecDepth 20000 in
theorem ggX7_combine_X2_invert : GoodIn wsX7_combine wsX2_invert := goodIn_r _ [54, 18, 19, 55, 13, 14, 15, 16, 17, 39, 40, 41, 42, 43, 44, 45, 46, 47, 48, 49, 50, 28, 29, 30, 83, 84, 85] (by decide +kernel) (by decide +kernel)
set_option maxRecDepth 20000 in
theorem gX7_combine_X2_invert : GoodIn wsX7_combine (wsV RX7 287 RX2 yX2_invert wsX2_invert) := goodIn_app (goodIn_of _ (by decide +kernel)) ggX7_combine_X2_invert
set_option maxRecDepth 20000 in
theorem ggX7_combine_X2_takeRoot : GoodIn wsX7_combine wsX2_takeRoot := goodIn_r _ [59, 18, 38, 9, 10, 11, 19, 39, 40, 41, 60, 61, 62, 63, 64, 50, 28, 29, 15, 30, 17, 83, 84, 85] (by decide +kernel) (by decide +kernel)
set_option maxRecDepth 20000 in
theorem gX7_combine_X2_takeRoot : GoodIn wsX7_combine (wsV RX7 291 RX2 yX2_takeRoot wsX2_takeRoot) := goodIn_app (goodIn_of _ (by decide +kernel)) ggX7_combine_X2_takeRoot
set_option maxRecDepth 20000 in
theorem ggX7_combine_X2_takeExp : GoodIn wsX7_combine wsX2_takeExp := goodIn_r _ [68, 18, 19, 39, 40, 41, 55, 13, 14, 15, 16, 17, 50, 28, 29, 30, 69, 32, 33, 34, 35, 36, 10, 37, 38, 9, 11, 42, 43, 44, 45, 46, 47, 48, 49, 83, 84, 85] (by decide +kernel) (by decide +kernel)
set_option maxRecDepth 20000 in
theorem gX7_combine_X2_takeExp : GoodIn wsX7_combine (wsV RX7 294 RX2 yX2_takeExp wsX2_takeExp) := goodIn_app (goodIn_of _ (by decide +kernel)) ggX7_combine_X2_takeExp
set_option maxRecDepth 20000 in
theorem ggX7_combine_X2_dropBeyondReach : GoodIn wsX7_combine wsX2_dropBeyondReach := goodIn_r _ [73, 74, 18, 19, 39, 40, 41, 55, 13, 14, 15, 16, 17, 83, 84, 85] (by decide +kernel) (by decide +kernel)
set_option maxRecDepth 20000 in
theorem gX7_combine_X2_dropBeyondReach : GoodIn wsX7_combine (wsV RX7 86 RX2 yX2_dropBeyondReach wsX2_dropBeyondReach) := goodIn_app (goodIn_of _ (by decide +kernel)) ggX7_combine_X2_dropBeyondReach
theorem dX7_combine_0 : decode cX7_combine 0 = .ok (.aload_n 0, 1) := by decide +kernel
theorem dX7_combine_1 : decode cX7_combine 1 = .ok (.getfield 26, 3) := by decide +kernel
theorem dX7_combine_4 : decode cX7_combine 4 = .ok (.getfield 173, 3) := by decide +kernel
theorem dX7_combine_7 : decode cX7_combine 7 = .ok (.ifCond .eq 13, 3) := by decide +kernel
theorem dX7_combine_10 : decode cX7_combine 10 = .ok (.aload_n 0, 1) := by decide +kernel
theorem dX7_combine_11 : decode cX7_combine 11 = .ok (.getfield 29, 3) := by decide +kernel
theorem dX7_combine_14 : decode cX7_combine 14 = .ok (.getfield 173, 3) := by decide +kernel
theorem dX7_combine_17 : decode cX7_combine 17 = .ok (.ifCond .ne 11, 3) := by decide +kernel
theorem dX7_combine_20 : decode cX7_combine 20 = .ok (.aload_n 0, 1) := by decide +kernel
theorem dX7_combine_21 : decode cX7_combine 21 = .ok (.getfield 22, 3) := by decide +kernel
theorem dX7_combine_24 : decode cX7_combine 24 = .ok (.invokevirtual 263, 3) := by decide +kernel
theorem dX7_combine_27 : decode cX7_combine 27 = .ok (.return_, 1) := by decide +kernel
theorem dX7_combine_28 : decode cX7_combine 28 = .ok (.getstatic 270, 3) := by decide +kernel
theorem dX7_combine_31 : decode cX7_combine 31 = .ok (.aload_n 1, 1) := by decide +kernel
theorem dX7_combine_32 : decode cX7_combine 32 = .ok (.invokevirtual 276, 3) := by decide +kernel
theorem dX7_combine_35 : decode cX7_combine 35 = .ok (.iaload, 1) := by decide +kernel
theorem dX7_combine_36 : decode cX7_combine 36 = .ok (.tableswitch 232 1 7 #[44, 84, 124, 143, 187, 202, 217], 44) := by decide +kernel
theorem dX7_combine_80 : decode cX7_combine 80 = .ok (.aload_n 0, 1) := by decide +kernel
theorem dX7_combine_81 : decode cX7_combine 81 = .ok (.getfield 22, 3) := by decide +kernel
theorem dX7_combine_84 : decode cX7_combine 84 = .ok (.aload_n 0, 1) := by decide +kernel
theorem dX7_combine_85 : decode cX7_combine 85 = .ok (.getfield 26, 3) := by decide +kernel
theorem dX7_combine_88 : decode cX7_combine 88 = .ok (.getfield 181, 3) := by decide +kernel
theorem dX7_combine_91 : decode cX7_combine 91 = .ok (.aload_n 0, 1) := by decide +kernel
theorem dX7_combine_92 : decode cX7_combine 92 = .ok (.getfield 29, 3) := by decide +kernel
theorem dX7_combine_95 : decode cX7_combine 95 = .ok (.getfield 181, 3) := by decide +kernel
theorem dX7_combine_98 : decode cX7_combine 98 = .ok (.ladd, 1) := by decide +kernel
theorem dX7_combine_99 : decode cX7_combine 99 = .ok (.aload_n 0, 1) := by decide +kernel
theorem dX7_combine_100 : decode cX7_combine 100 = .ok (.getfield 26, 3) := by decide +kernel
theorem dX7_combine_103 : decode cX7_combine 103 = .ok (.getfield 177, 3) := by decide +kernel
theorem dX7_combine_106 : decode cX7_combine 106 = .ok (.aload_n 0, 1) := by decide +kernel
theorem dX7_combine_107 : decode cX7_combine 107 = .ok (.getfield 29, 3) := by decide +kernel
theorem dX7_combine_110 : decode cX7_combine 110 = .ok (.getfield 177, 3) := by decide +kernel
theorem dX7_combine_113 : decode cX7_combine 113 = .ok (.ladd, 1) := by decide +kernel
theorem dX7_combine_114 : decode cX7_combine 114 = .ok (.invokevirtual 82, 3) := by decide +kernel
theorem dX7_combine_117 : decode cX7_combine 117 = .ok (.goto 158, 3) := by decide +kernel
theorem dX7_combine_120 : decode cX7_combine 120 = .ok (.aload_n 0, 1) := by decide +kernel
theorem dX7_combine_121 : decode cX7_combine 121 = .ok (.getfield 22, 3) := by decide +kernel
theorem dX7_combine_124 : decode cX7_combine 124 = .ok (.aload_n 0, 1) := by decide +kernel
theorem dX7_combine_125 : decode cX7_combine 125 = .ok (.getfield 26, 3) := by decide +kernel
theorem dX7_combine_128 : decode cX7_combine 128 = .ok (.getfield 181, 3) := by decide +kernel
theorem dX7_combine_131 : decode cX7_combine 131 = .ok (.aload_n 0, 1) := by decide +kernel
theorem dX7_combine_132 : decode cX7_combine 132 = .ok (.getfield 29, 3) := by decide +kernel
theorem dX7_combine_135 : decode cX7_combine 135 = .ok (.getfield 177, 3) := by decide +kernel
theorem dX7_combine_138 : decode cX7_combine 138 = .ok (.lsub, 1) := by decide +kernel
theorem dX7_combine_139 : decode cX7_combine 139 = .ok (.aload_n 0, 1) := by decide +kernel
theorem dX7_combine_140 : decode cX7_combine 140 = .ok (.getfield 26, 3) := by decide +kernel
theorem dX7_combine_143 : decode cX7_combine 143 = .ok (.getfield 177, 3) := by decide +kernel
theorem dX7_combine_146 : decode cX7_combine 146 = .ok (.aload_n 0, 1) := by decide +kernel
theorem dX7_combine_147 : decode cX7_combine 147 = .ok (.getfield 29, 3) := by decide +kernel
theorem dX7_combine_150 : decode cX7_combine 150 = .ok (.getfield 181, 3) := by decide +kernel
theorem dX7_combine_153 : decode cX7_combine 153 = .ok (.lsub, 1) := by decide +kernel
theorem dX7_combine_154 : decode cX7_combine 154 = .ok (.invokevirtual 82, 3) := by decide +kernel
theorem dX7_combine_157 : decode cX7_combine 157 = .ok (.goto 118, 3) := by decide +kernel
theorem dX7_combine_160 : decode cX7_combine 160 = .ok (.aload_n 0, 1) := by decide +kernel
theorem dX7_combine_161 : decode cX7_combine 161 = .ok (.getfield 22, 3) := by decide +kernel
theorem dX7_combine_164 : decode cX7_combine 164 = .ok (.aload_n 0, 1) := by decide +kernel
theorem dX7_combine_165 : decode cX7_combine 165 = .ok (.getfield 26, 3) := by decide +kernel
theorem dX7_combine_168 : decode cX7_combine 168 = .ok (.aload_n 0, 1) := by decide +kernel
theorem dX7_combine_169 : decode cX7_combine 169 = .ok (.getfield 29, 3) := by decide +kernel
theorem dX7_combine_172 : decode cX7_combine 172 = .ok (.iload_n 2, 1) := by decide +kernel
theorem dX7_combine_173 : decode cX7_combine 173 = .ok (.invokevirtual 280, 3) := by decide +kernel
theorem dX7_combine_176 : decode cX7_combine 176 = .ok (.goto 99, 3) := by decide +kernel
theorem dX7_combine_179 : decode cX7_combine 179 = .ok (.aload_n 0, 1) := by decide +kernel
theorem dX7_combine_180 : decode cX7_combine 180 = .ok (.getfield 22, 3) := by decide +kernel
theorem dX7_combine_183 : decode cX7_combine 183 = .ok (.aload_n 0, 1) := by decide +kernel
theorem dX7_combine_184 : decode cX7_combine 184 = .ok (.getfield 26, 3) := by decide +kernel
theorem dX7_combine_187 : decode cX7_combine 187 = .ok (.getfield 181, 3) := by decide +kernel
theorem dX7_combine_190 : decode cX7_combine 190 = .ok (.aload_n 0, 1) := by decide +kernel
theorem dX7_combine_191 : decode cX7_combine 191 = .ok (.getfield 29, 3) := by decide +kernel
theorem dX7_combine_194 : decode cX7_combine 194 = .ok (.getfield 181, 3) := by decide +kernel
theorem dX7_combine_197 : decode cX7_combine 197 = .ok (.invokestatic 284, 3) := by decide +kernel
theorem dX7_combine_200 : decode cX7_combine 200 = .ok (.aload_n 0, 1) := by decide +kernel
theorem dX7_combine_201 : decode cX7_combine 201 = .ok (.getfield 26, 3) := by decide +kernel
theorem dX7_combine_204 : decode cX7_combine 204 = .ok (.getfield 177, 3) := by decide +kernel
theorem dX7_combine_207 : decode cX7_combine 207 = .ok (.aload_n 0, 1) := by decide +kernel
theorem dX7_combine_208 : decode cX7_combine 208 = .ok (.getfield 29, 3) := by decide +kernel
theorem dX7_combine_211 : decode cX7_combine 211 = .ok (.getfield 177, 3) := by decide +kernel
theorem dX7_combine_214 : decode cX7_combine 214 = .ok (.invokestatic 284, 3) := by decide +kernel
theorem dX7_combine_217 : decode cX7_combine 217 = .ok (.invokevirtual 82, 3) := by decide +kernel
theorem dX7_combine_220 : decode cX7_combine 220 = .ok (.goto 55, 3) := by decide +kernel
theorem dX7_combine_223 : decode cX7_combine 223 = .ok (.aload_n 0, 1) := by decide +kernel
theorem dX7_combine_224 : decode cX7_combine 224 = .ok (.getfield 22, 3) := by decide +kernel
theorem dX7_combine_227 : decode cX7_combine 227 = .ok (.aload_n 0, 1) := by decide +kernel
theorem dX7_combine_228 : decode cX7_combine 228 = .ok (.getfield 26, 3) := by decide +kernel
theorem dX7_combine_231 : decode cX7_combine 231 = .ok (.iload_n 2, 1) := by decide +kernel
theorem dX7_combine_232 : decode cX7_combine 232 = .ok (.invokevirtual 287, 3) := by decide +kernel
theorem dX7_combine_235 : decode cX7_combine 235 = .ok (.goto 40, 3) := by decide +kernel
theorem dX7_combine_238 : decode cX7_combine 238 = .ok (.aload_n 0, 1) := by decide +kernel
theorem dX7_combine_239 : decode cX7_combine 239 = .ok (.getfield 22, 3) := by decide +kernel
theorem dX7_combine_242 : decode cX7_combine 242 = .ok (.aload_n 0, 1) := by decide +kernel
theorem dX7_combine_243 : decode cX7_combine 243 = .ok (.getfield 26, 3) := by decide +kernel
theorem dX7_combine_246 : decode cX7_combine 246 = .ok (.iload_n 2, 1) := by decide +kernel
theorem dX7_combine_247 : decode cX7_combine 247 = .ok (.invokevirtual 291, 3) := by decide +kernel
theorem dX7_combine_250 : decode cX7_combine 250 = .ok (.goto 25, 3) := by decide +kernel
theorem dX7_combine_253 : decode cX7_combine 253 = .ok (.aload_n 0, 1) := by decide +kernel
theorem dX7_combine_254 : decode cX7_combine 254 = .ok (.getfield 22, 3) := by decide +kernel
theorem dX7_combine_257 : decode cX7_combine 257 = .ok (.aload_n 0, 1) := by decide +kernel
theorem dX7_combine_258 : decode cX7_combine 258 = .ok (.getfield 26, 3) := by decide +kernel
theorem dX7_combine_261 : decode cX7_combine 261 = .ok (.iload_n 2, 1) := by decide +kernel
theorem dX7_combine_262 : decode cX7_combine 262 = .ok (.invokevirtual 294, 3) := by decide +kernel
theorem dX7_combine_265 : decode cX7_combine 265 = .ok (.goto 10, 3) := by decide +kernel
theorem dX7_combine_268 : decode cX7_combine 268 = .ok (.aload_n 0, 1) := by decide +kernel
theorem dX7_combine_269 : decode cX7_combine 269 = .ok (.getfield 22, 3) := by decide +kernel
theorem dX7_combine_272 : decode cX7_combine 272 = .ok (.invokevirtual 263, 3) := by decide +kernel
theorem dX7_combine_275 : decode cX7_combine 275 = .ok (.aload_n 0, 1) := by decide +kernel
theorem dX7_combine_276 : decode cX7_combine 276 = .ok (.getfield 22, 3) := by decide +kernel
theorem dX7_combine_279 : decode cX7_combine 279 = .ok (.iload_n 2, 1) := by decide +kernel
theorem dX7_combine_280 : decode cX7_combine 280 = .ok (.invokevirtual 86, 3) := by decide +kernel
theorem dX7_combine_283 : decode cX7_combine 283 = .ok (.return_, 1) := by decide +kernel
set_option maxRecDepth 20000 in
theorem ggX7_findZero_X7_unitsAt : GoodIn wsX7_findZero wsX7_unitsAt := goodIn_r _ [10] (by decide +kernel) (by decide +kernel)
set_option maxRecDepth 20000 in
theorem gX7_findZero_X7_unitsAt : GoodIn wsX7_findZero (va_wsS RX7 71 yX7_unitsAt wsX7_unitsAt) := goodIn_app (goodIn_of _ (by decide +kernel)) ggX7_findZero_X7_unitsAt
set_option maxRecDepth 20000 in
theorem ggX7_findZero_X4_signAt : GoodIn wsX7_findZero wsX4_signAt := goodIn_r _ [15, 16, 17, 18, 19, 8, 9, 10, 20, 21, 22, 23, 40, 41, 42, 43] (by decide +kernel) (by decide +kernel)
set_option maxRecDepth 20000 in
theorem gX7_findZero_X4_signAt : GoodIn wsX7_findZero (wsV RX7 130 RX4 yX4_signAt wsX4_signAt) := goodIn_app (goodIn_of _ (by decide +kernel)) ggX7_findZero_X4_signAt
set_option maxRecDepth 20000 in
theorem ggX7_findZero_X2_assign : GoodIn wsX7_findZero wsX2_assign := goodIn_r _ [28, 29, 30, 31, 44, 45, 46] (by decide +kernel) (by decide +kernel)
set_option maxRecDepth 20000 in
theorem gX7_findZero_X2_assign : GoodIn wsX7_findZero (wsV RX7 82 RX2 yX2_assign wsX2_assign) := goodIn_app (goodIn_of _ (by decide +kernel)) ggX7_findZero_X2_assign
theorem dX7_findZero_0 : decode cX7_findZero 0 = .ok (.iload 4, 2) := by decide +kernel
theorem dX7_findZero_2 : decode cX7_findZero 2 = .ok (.bipush 16, 2) := by decide +kernel
theorem dX7_findZero_4 : decode cX7_findZero 4 = .ok (.invokestatic 297, 3) := by decide +kernel
theorem dX7_findZero_7 : decode cX7_findZero 7 = .ok (.istore 5, 2) := by decide +kernel
theorem dX7_findZero_9 : decode cX7_findZero 9 = .ok (.iload_n 2, 1) := by decide +kernel
theorem dX7_findZero_10 : decode cX7_findZero 10 = .ok (.i2l, 1) := by decide +kernel
theorem dX7_findZero_11 : decode cX7_findZero 11 = .ok (.iload 5, 2) := by decide +kernel
theorem dX7_findZero_13 : decode cX7_findZero 13 = .ok (.invokestatic 71, 3) := by decide +kernel
theorem dX7_findZero_16 : decode cX7_findZero 16 = .ok (.lmul, 1) := by decide +kernel
theorem dX7_findZero_17 : decode cX7_findZero 17 = .ok (.lstore 6, 2) := by decide +kernel
theorem dX7_findZero_19 : decode cX7_findZero 19 = .ok (.lload 6, 2) := by decide +kernel
theorem dX7_findZero_21 : decode cX7_findZero 21 = .ok (.iload 5, 2) := by decide +kernel
theorem dX7_findZero_23 : decode cX7_findZero 23 = .ok (.invokestatic 71, 3) := by decide +kernel
theorem dX7_findZero_26 : decode cX7_findZero 26 = .ok (.iload_n 3, 1) := by decide +kernel
theorem dX7_findZero_27 : decode cX7_findZero 27 = .ok (.lshl, 1) := by decide +kernel
theorem dX7_findZero_28 : decode cX7_findZero 28 = .ok (.ladd, 1) := by decide +kernel
theorem dX7_findZero_29 : decode cX7_findZero 29 = .ok (.lstore 8, 2) := by decide +kernel
theorem dX7_findZero_31 : decode cX7_findZero 31 = .ok (.aload_n 1, 1) := by decide +kernel
theorem dX7_findZero_32 : decode cX7_findZero 32 = .ok (.lload 6, 2) := by decide +kernel
theorem dX7_findZero_34 : decode cX7_findZero 34 = .ok (.iload 5, 2) := by decide +kernel
theorem dX7_findZero_36 : decode cX7_findZero 36 = .ok (.invokevirtual 130, 3) := by decide +kernel
theorem dX7_findZero_39 : decode cX7_findZero 39 = .ok (.istore 10, 2) := by decide +kernel
theorem dX7_findZero_41 : decode cX7_findZero 41 = .ok (.iconst 0, 1) := by decide +kernel
theorem dX7_findZero_42 : decode cX7_findZero 42 = .ok (.istore 11, 2) := by decide +kernel
theorem dX7_findZero_44 : decode cX7_findZero 44 = .ok (.iload 11, 2) := by decide +kernel
theorem dX7_findZero_46 : decode cX7_findZero 46 = .ok (.iload 5, 2) := by decide +kernel
theorem dX7_findZero_48 : decode cX7_findZero 48 = .ok (.iload_n 3, 1) := by decide +kernel
theorem dX7_findZero_49 : decode cX7_findZero 49 = .ok (.iadd, 1) := by decide +kernel
theorem dX7_findZero_50 : decode cX7_findZero 50 = .ok (.if_icmp .ge 70, 3) := by decide +kernel
theorem dX7_findZero_53 : decode cX7_findZero 53 = .ok (.lload 8, 2) := by decide +kernel
theorem dX7_findZero_55 : decode cX7_findZero 55 = .ok (.lload 6, 2) := by decide +kernel
theorem dX7_findZero_57 : decode cX7_findZero 57 = .ok (.lsub, 1) := by decide +kernel
theorem dX7_findZero_58 : decode cX7_findZero 58 = .ok (.lconst 1, 1) := by decide +kernel
theorem dX7_findZero_59 : decode cX7_findZero 59 = .ok (.lcmp, 1) := by decide +kernel
theorem dX7_findZero_60 : decode cX7_findZero 60 = .ok (.ifCond .le 60, 3) := by decide +kernel
theorem dX7_findZero_63 : decode cX7_findZero 63 = .ok (.lload 6, 2) := by decide +kernel
theorem dX7_findZero_65 : decode cX7_findZero 65 = .ok (.lload 8, 2) := by decide +kernel
theorem dX7_findZero_67 : decode cX7_findZero 67 = .ok (.lload 6, 2) := by decide +kernel
theorem dX7_findZero_69 : decode cX7_findZero 69 = .ok (.lsub, 1) := by decide +kernel
theorem dX7_findZero_70 : decode cX7_findZero 70 = .ok (.ldc2_w 229, 3) := by decide +kernel
theorem dX7_findZero_73 : decode cX7_findZero 73 = .ok (.ldiv, 1) := by decide +kernel
theorem dX7_findZero_74 : decode cX7_findZero 74 = .ok (.ladd, 1) := by decide +kernel
theorem dX7_findZero_75 : decode cX7_findZero 75 = .ok (.lstore 12, 2) := by decide +kernel
theorem dX7_findZero_77 : decode cX7_findZero 77 = .ok (.aload_n 1, 1) := by decide +kernel
theorem dX7_findZero_78 : decode cX7_findZero 78 = .ok (.lload 12, 2) := by decide +kernel
theorem dX7_findZero_80 : decode cX7_findZero 80 = .ok (.iload 5, 2) := by decide +kernel
theorem dX7_findZero_82 : decode cX7_findZero 82 = .ok (.invokevirtual 130, 3) := by decide +kernel
theorem dX7_findZero_85 : decode cX7_findZero 85 = .ok (.istore 14, 2) := by decide +kernel
theorem dX7_findZero_87 : decode cX7_findZero 87 = .ok (.iload 14, 2) := by decide +kernel
theorem dX7_findZero_89 : decode cX7_findZero 89 = .ok (.ifCond .eq 10, 3) := by decide +kernel
theorem dX7_findZero_92 : decode cX7_findZero 92 = .ok (.iload 14, 2) := by decide +kernel
theorem dX7_findZero_94 : decode cX7_findZero 94 = .ok (.iload 10, 2) := by decide +kernel
theorem dX7_findZero_96 : decode cX7_findZero 96 = .ok (.if_icmp .ne 7, 3) := by decide +kernel
theorem dX7_findZero_99 : decode cX7_findZero 99 = .ok (.lload 12, 2) := by decide +kernel
theorem dX7_findZero_101 : decode cX7_findZero 101 = .ok (.lstore 6, 2) := by decide +kernel
theorem dX7_findZero_103 : decode cX7_findZero 103 = .ok (.iload 14, 2) := by decide +kernel
theorem dX7_findZero_105 : decode cX7_findZero 105 = .ok (.iload 10, 2) := by decide +kernel
theorem dX7_findZero_107 : decode cX7_findZero 107 = .ok (.if_icmp .eq 7, 3) := by decide +kernel
theorem dX7_findZero_110 : decode cX7_findZero 110 = .ok (.lload 12, 2) := by decide +kernel
theorem dX7_findZero_112 : decode cX7_findZero 112 = .ok (.lstore 8, 2) := by decide +kernel
theorem dX7_findZero_114 : decode cX7_findZero 114 = .ok (.iinc 11 1, 3) := by decide +kernel
theorem dX7_findZero_117 : decode cX7_findZero 117 = .ok (.goto (-73), 3) := by decide +kernel
theorem dX7_findZero_120 : decode cX7_findZero 120 = .ok (.iload 4, 2) := by decide +kernel
theorem dX7_findZero_122 : decode cX7_findZero 122 = .ok (.iload 5, 2) := by decide +kernel
theorem dX7_findZero_124 : decode cX7_findZero 124 = .ok (.isub, 1) := by decide +kernel
theorem dX7_findZero_125 : decode cX7_findZero 125 = .ok (.invokestatic 71, 3) := by decide +kernel
theorem dX7_findZero_128 : decode cX7_findZero 128 = .ok (.lstore 11, 2) := by decide +kernel
theorem dX7_findZero_130 : decode cX7_findZero 130 = .ok (.aload_n 0, 1) := by decide +kernel
theorem dX7_findZero_131 : decode cX7_findZero 131 = .ok (.getfield 22, 3) := by decide +kernel
theorem dX7_findZero_134 : decode cX7_findZero 134 = .ok (.lload 6, 2) := by decide +kernel
theorem dX7_findZero_136 : decode cX7_findZero 136 = .ok (.lload 11, 2) := by decide +kernel
theorem dX7_findZero_138 : decode cX7_findZero 138 = .ok (.lmul, 1) := by decide +kernel
theorem dX7_findZero_139 : decode cX7_findZero 139 = .ok (.lload 8, 2) := by decide +kernel
theorem dX7_findZero_141 : decode cX7_findZero 141 = .ok (.lload 11, 2) := by decide +kernel
theorem dX7_findZero_143 : decode cX7_findZero 143 = .ok (.lmul, 1) := by decide +kernel
theorem dX7_findZero_144 : decode cX7_findZero 144 = .ok (.invokevirtual 82, 3) := by decide +kernel
theorem dX7_findZero_147 : decode cX7_findZero 147 = .ok (.return_, 1) := by decide +kernel
set_option maxRecDepth 20000 in
theorem ggX7_suppose_X7_existing : GoodIn wsX7_suppose wsX7_existing := goodIn_ca (goodIn_r _ [12, 13, 14, 15, 16, 127, 128, 129, 130, 131, 132, 133, 134] (by decide +kernel) (by decide +kernel)) (goodIn_sub (fun _ h => List.mem_cons_of_mem _ (List.mem_append_right _ h)) (by decide +kernel))
set_option maxRecDepth 20000 in
theorem gX7_suppose_X7_existing : GoodIn wsX7_suppose (wsV RX7 148 RX7 yX7_existing wsX7_existing) := goodIn_app (goodIn_of _ (by decide +kernel)) ggX7_suppose_X7_existing
set_option maxRecDepth 20000 in
theorem ggX7_suppose_X5_isMadeOf : GoodIn wsX7_suppose wsX5_isMadeOf := goodIn_r _ [21, 22, 119, 120, 121, 122, 123, 124, 125, 126] (by decide +kernel) (by decide +kernel)
set_option maxRecDepth 20000 in
theorem gX7_suppose_X5_isMadeOf : GoodIn wsX7_suppose (wsV RX7 301 RX5 yX5_isMadeOf wsX5_isMadeOf) := goodIn_app (goodIn_of _ (by decide +kernel)) ggX7_suppose_X5_isMadeOf
set_option maxRecDepth 20000 in
theorem ggX7_suppose_X7_loadSupposed : GoodIn wsX7_suppose wsX7_loadSupposed := goodIn_ca (goodIn_r _ [26, 6, 27, 8, 9, 10, 11, 12, 13, 14, 15, 16, 17, 18, 19, 20, 21, 22, 28, 29, 30, 31, 32, 33, 34, 35, 36, 37, 38, 39, 40, 41, 42, 43, 44, 45, 46, 47, 127, 128, 129, 130, 131, 132, 133, 134, 119, 120, 121, 122, 123, 124, 125, 126, 135, 136, 137, 138, 139, 140] (by decide +kernel) (by decide +kernel)) (goodIn_sub (fun _ h => List.mem_cons_of_mem _ (List.mem_append_right _ h)) (by decide +kernel))
set_option maxRecDepth 20000 in
theorem gX7_suppose_X7_loadSupposed : GoodIn wsX7_suppose (wsV RX7 166 RX7 yX7_loadSupposed wsX7_loadSupposed) := goodIn_app (goodIn_of _ (by decide +kernel)) ggX7_suppose_X7_loadSupposed
set_option maxRecDepth 20000 in
theorem ggX7_suppose_X7_combine : GoodIn wsX7_suppose wsX7_combine := goodIn_r _ [51, 2, 52, 4, 7, 53, 54, 55, 56, 57, 58, 59, 60, 37, 38, 39, 40, 41, 42, 43, 61, 62, 63, 64, 65, 66, 67, 68, 45, 46, 47, 69, 70, 71, 72, 73, 74, 75, 76, 77, 11, 78, 79, 80, 81, 82, 83, 84, 85, 86, 87, 88, 89, 90, 91, 92, 93, 94, 95, 96, 97, 98, 99, 100, 101, 102, 103, 104, 105, 106, 107, 108, 109, 110, 111, 127, 128, 129, 130, 131, 132, 133, 134, 138, 139, 140] (by decide +kernel) (by decide +kernel)
set_option maxRecDepth 20000 in
theorem gX7_suppose_X7_combine : GoodIn wsX7_suppose (wsV RX7 259 RX7 yX7_combine wsX7_combine) := goodIn_app (goodIn_of _ (by decide +kernel)) ggX7_suppose_X7_combine
set_option maxRecDepth 20000 in
theorem ggX7_suppose_X6_put : GoodIn wsX7_suppose wsX6_put := goodIn_r _ [115, 33, 34, 116, 117, 35, 118, 135, 136, 137, 138, 139, 140] (by decide +kernel) (by decide +kernel)
set_option maxRecDepth 20000 in
theorem gX7_suppose_X6_put : GoodIn wsX7_suppose (wsV RX7 92 RX6 yX6_put wsX6_put) := goodIn_app (goodIn_of _ (by decide +kernel)) ggX7_suppose_X6_put
theorem dX7_suppose_0 : decode cX7_suppose 0 = .ok (.aload_n 0, 1) := by decide +kernel
theorem dX7_suppose_1 : decode cX7_suppose 1 = .ok (.iload_n 1, 1) := by decide +kernel
theorem dX7_suppose_2 : decode cX7_suppose 2 = .ok (.invokevirtual 148, 3) := by decide +kernel
theorem dX7_suppose_5 : decode cX7_suppose 5 = .ok (.astore 4, 2) := by decide +kernel
theorem dX7_suppose_7 : decode cX7_suppose 7 = .ok (.aload 4, 2) := by decide +kernel
theorem dX7_suppose_9 : decode cX7_suppose 9 = .ok (.iload_n 2, 1) := by decide +kernel
theorem dX7_suppose_10 : decode cX7_suppose 10 = .ok (.invokevirtual 301, 3) := by decide +kernel
theorem dX7_suppose_13 : decode cX7_suppose 13 = .ok (.ifCond .eq 55, 3) := by decide +kernel
theorem dX7_suppose_16 : decode cX7_suppose 16 = .ok (.aload_n 0, 1) := by decide +kernel
theorem dX7_suppose_17 : decode cX7_suppose 17 = .ok (.aload 4, 2) := by decide +kernel
theorem dX7_suppose_19 : decode cX7_suppose 19 = .ok (.getfield 305, 3) := by decide +kernel
theorem dX7_suppose_22 : decode cX7_suppose 22 = .ok (.iload_n 2, 1) := by decide +kernel
theorem dX7_suppose_23 : decode cX7_suppose 23 = .ok (.iload_n 3, 1) := by decide +kernel
theorem dX7_suppose_24 : decode cX7_suppose 24 = .ok (.aload_n 0, 1) := by decide +kernel
theorem dX7_suppose_25 : decode cX7_suppose 25 = .ok (.getfield 26, 3) := by decide +kernel
theorem dX7_suppose_28 : decode cX7_suppose 28 = .ok (.invokevirtual 166, 3) := by decide +kernel
theorem dX7_suppose_31 : decode cX7_suppose 31 = .ok (.aload_n 0, 1) := by decide +kernel
theorem dX7_suppose_32 : decode cX7_suppose 32 = .ok (.aload 4, 2) := by decide +kernel
theorem dX7_suppose_34 : decode cX7_suppose 34 = .ok (.getfield 308, 3) := by decide +kernel
theorem dX7_suppose_37 : decode cX7_suppose 37 = .ok (.iload_n 2, 1) := by decide +kernel
theorem dX7_suppose_38 : decode cX7_suppose 38 = .ok (.iload_n 3, 1) := by decide +kernel
theorem dX7_suppose_39 : decode cX7_suppose 39 = .ok (.aload_n 0, 1) := by decide +kernel
theorem dX7_suppose_40 : decode cX7_suppose 40 = .ok (.getfield 29, 3) := by decide +kernel
theorem dX7_suppose_43 : decode cX7_suppose 43 = .ok (.invokevirtual 166, 3) := by decide +kernel
theorem dX7_suppose_46 : decode cX7_suppose 46 = .ok (.aload_n 0, 1) := by decide +kernel
theorem dX7_suppose_47 : decode cX7_suppose 47 = .ok (.aload 4, 2) := by decide +kernel
theorem dX7_suppose_49 : decode cX7_suppose 49 = .ok (.getfield 311, 3) := by decide +kernel
theorem dX7_suppose_52 : decode cX7_suppose 52 = .ok (.iload_n 3, 1) := by decide +kernel
theorem dX7_suppose_53 : decode cX7_suppose 53 = .ok (.invokevirtual 259, 3) := by decide +kernel
theorem dX7_suppose_56 : decode cX7_suppose 56 = .ok (.aload_n 0, 1) := by decide +kernel
theorem dX7_suppose_57 : decode cX7_suppose 57 = .ok (.getfield 37, 3) := by decide +kernel
theorem dX7_suppose_60 : decode cX7_suppose 60 = .ok (.iload_n 1, 1) := by decide +kernel
theorem dX7_suppose_61 : decode cX7_suppose 61 = .ok (.aload_n 0, 1) := by decide +kernel
theorem dX7_suppose_62 : decode cX7_suppose 62 = .ok (.getfield 22, 3) := by decide +kernel
theorem dX7_suppose_65 : decode cX7_suppose 65 = .ok (.invokevirtual 92, 3) := by decide +kernel
theorem dX7_suppose_68 : decode cX7_suppose 68 = .ok (.return_, 1) := by decide +kernel
set_option maxRecDepth 20000 in
theorem ggX7_loadSupposed_X7_existing : GoodIn wsX7_loadSupposed wsX7_existing := goodIn_ca (goodIn_r _ [7, 8, 9, 10, 11, 38, 39, 40, 41, 42, 43, 44, 45] (by decide +kernel) (by decide +kernel)) (goodIn_sub (fun _ h => List.mem_cons_of_mem _ (List.mem_append_right _ h)) (by decide +kernel))
set_option maxRecDepth 20000 in
theorem gX7_loadSupposed_X7_existing : GoodIn wsX7_loadSupposed (wsV RX7 148 RX7 yX7_existing wsX7_existing) := goodIn_app (goodIn_of _ (by decide +kernel)) ggX7_loadSupposed_X7_existing
set_option maxRecDepth 20000 in
theorem ggX7_loadSupposed_X5_isMadeOf : GoodIn wsX7_loadSupposed wsX5_isMadeOf := goodIn_r _ [16, 17, 46, 47, 48, 49, 50, 51, 52, 53] (by decide +kernel) (by decide +kernel)
set_option maxRecDepth 20000 in
theorem gX7_loadSupposed_X5_isMadeOf : GoodIn wsX7_loadSupposed (wsV RX7 301 RX5 yX5_isMadeOf wsX5_isMadeOf) := goodIn_app (goodIn_of _ (by decide +kernel)) ggX7_loadSupposed_X5_isMadeOf
set_option maxRecDepth 20000 in
theorem ggX7_loadSupposed_X6_load : GoodIn wsX7_loadSupposed wsX6_load := goodIn_r _ [22, 23, 24, 25, 26, 27, 28, 29, 30, 31, 32, 33, 34, 35, 36, 37, 54, 55, 56, 57, 58, 59] (by decide +kernel) (by decide +kernel)
set_option maxRecDepth 20000 in
theorem gX7_loadSupposed_X6_load : GoodIn wsX7_loadSupposed (wsV RX7 152 RX6 yX6_load wsX6_load) := goodIn_app (goodIn_of _ (by decide +kernel)) ggX7_loadSupposed_X6_load
theorem dX7_loadSupposed_0 : decode cX7_loadSupposed 0 = .ok (.aload_n 0, 1) := by decide +kernel
theorem dX7_loadSupposed_1 : decode cX7_loadSupposed 1 = .ok (.iload_n 1, 1) := by decide +kernel
theorem dX7_loadSupposed_2 : decode cX7_loadSupposed 2 = .ok (.invokevirtual 148, 3) := by decide +kernel
theorem dX7_loadSupposed_5 : decode cX7_loadSupposed 5 = .ok (.astore 5, 2) := by decide +kernel
theorem dX7_loadSupposed_7 : decode cX7_loadSupposed 7 = .ok (.aload 5, 2) := by decide +kernel
theorem dX7_loadSupposed_9 : decode cX7_loadSupposed 9 = .ok (.iload_n 2, 1) := by decide +kernel
theorem dX7_loadSupposed_10 : decode cX7_loadSupposed 10 = .ok (.invokevirtual 301, 3) := by decide +kernel
theorem dX7_loadSupposed_13 : decode cX7_loadSupposed 13 = .ok (.ifCond .eq 16, 3) := by decide +kernel
theorem dX7_loadSupposed_16 : decode cX7_loadSupposed 16 = .ok (.aload_n 0, 1) := by decide +kernel
theorem dX7_loadSupposed_17 : decode cX7_loadSupposed 17 = .ok (.getfield 37, 3) := by decide +kernel
theorem dX7_loadSupposed_20 : decode cX7_loadSupposed 20 = .ok (.iload_n 1, 1) := by decide +kernel
theorem dX7_loadSupposed_21 : decode cX7_loadSupposed 21 = .ok (.aload 4, 2) := by decide +kernel
theorem dX7_loadSupposed_23 : decode cX7_loadSupposed 23 = .ok (.invokevirtual 152, 3) := by decide +kernel
theorem dX7_loadSupposed_26 : decode cX7_loadSupposed 26 = .ok (.goto 14, 3) := by decide +kernel
theorem dX7_loadSupposed_29 : decode cX7_loadSupposed 29 = .ok (.aload 5, 2) := by decide +kernel
theorem dX7_loadSupposed_31 : decode cX7_loadSupposed 31 = .ok (.getfield 89, 3) := by decide +kernel
theorem dX7_loadSupposed_34 : decode cX7_loadSupposed 34 = .ok (.iload_n 3, 1) := by decide +kernel
theorem dX7_loadSupposed_35 : decode cX7_loadSupposed 35 = .ok (.aload 4, 2) := by decide +kernel
theorem dX7_loadSupposed_37 : decode cX7_loadSupposed 37 = .ok (.invokevirtual 152, 3) := by decide +kernel
theorem dX7_loadSupposed_40 : decode cX7_loadSupposed 40 = .ok (.return_, 1) := by decide +kernel
set_option maxRecDepth 20000 in
theorem ggX7_compareAt_X6_load : GoodIn wsX7_compareAt wsX6_load := goodIn_r _ [11, 12, 13, 14, 15, 16, 17, 18, 19, 20, 21, 22, 23, 24, 25, 26, 46, 47, 48, 43, 44, 45] (by decide +kernel) (by decide +kernel)
set_option maxRecDepth 20000 in
theorem gX7_compareAt_X6_load : GoodIn wsX7_compareAt (wsV RX7 152 RX6 yX6_load wsX6_load) := goodIn_app (goodIn_of _ (by decide +kernel)) ggX7_compareAt_X6_load
theorem dX7_compareAt_0 : decode cX7_compareAt 0 = .ok (.aload_n 1, 1) := by decide +kernel
theorem dX7_compareAt_1 : decode cX7_compareAt 1 = .ok (.getfield 170, 3) := by decide +kernel
theorem dX7_compareAt_4 : decode cX7_compareAt 4 = .ok (.iload_n 3, 1) := by decide +kernel
theorem dX7_compareAt_5 : decode cX7_compareAt 5 = .ok (.aload_n 0, 1) := by decide +kernel
theorem dX7_compareAt_6 : decode cX7_compareAt 6 = .ok (.getfield 26, 3) := by decide +kernel
theorem dX7_compareAt_9 : decode cX7_compareAt 9 = .ok (.invokevirtual 152, 3) := by decide +kernel
theorem dX7_compareAt_12 : decode cX7_compareAt 12 = .ok (.aload_n 2, 1) := by decide +kernel
theorem dX7_compareAt_13 : decode cX7_compareAt 13 = .ok (.getfield 170, 3) := by decide +kernel
theorem dX7_compareAt_16 : decode cX7_compareAt 16 = .ok (.iload_n 3, 1) := by decide +kernel
theorem dX7_compareAt_17 : decode cX7_compareAt 17 = .ok (.aload_n 0, 1) := by decide +kernel
theorem dX7_compareAt_18 : decode cX7_compareAt 18 = .ok (.getfield 29, 3) := by decide +kernel
theorem dX7_compareAt_21 : decode cX7_compareAt 21 = .ok (.invokevirtual 152, 3) := by decide +kernel
theorem dX7_compareAt_24 : decode cX7_compareAt 24 = .ok (.aload_n 0, 1) := by decide +kernel
theorem dX7_compareAt_25 : decode cX7_compareAt 25 = .ok (.getfield 26, 3) := by decide +kernel
theorem dX7_compareAt_28 : decode cX7_compareAt 28 = .ok (.getfield 173, 3) := by decide +kernel
theorem dX7_compareAt_31 : decode cX7_compareAt 31 = .ok (.ifCond .eq 13, 3) := by decide +kernel
theorem dX7_compareAt_34 : decode cX7_compareAt 34 = .ok (.aload_n 0, 1) := by decide +kernel
theorem dX7_compareAt_35 : decode cX7_compareAt 35 = .ok (.getfield 29, 3) := by decide +kernel
theorem dX7_compareAt_38 : decode cX7_compareAt 38 = .ok (.getfield 173, 3) := by decide +kernel
theorem dX7_compareAt_41 : decode cX7_compareAt 41 = .ok (.ifCond .ne 5, 3) := by decide +kernel
theorem dX7_compareAt_44 : decode cX7_compareAt 44 = .ok (.iconst 0, 1) := by decide +kernel
theorem dX7_compareAt_45 : decode cX7_compareAt 45 = .ok (.ireturn, 1) := by decide +kernel
theorem dX7_compareAt_46 : decode cX7_compareAt 46 = .ok (.aload_n 0, 1) := by decide +kernel
theorem dX7_compareAt_47 : decode cX7_compareAt 47 = .ok (.getfield 26, 3) := by decide +kernel
theorem dX7_compareAt_50 : decode cX7_compareAt 50 = .ok (.getfield 177, 3) := by decide +kernel
theorem dX7_compareAt_53 : decode cX7_compareAt 53 = .ok (.aload_n 0, 1) := by decide +kernel
theorem dX7_compareAt_54 : decode cX7_compareAt 54 = .ok (.getfield 29, 3) := by decide +kernel
theorem dX7_compareAt_57 : decode cX7_compareAt 57 = .ok (.getfield 181, 3) := by decide +kernel
theorem dX7_compareAt_60 : decode cX7_compareAt 60 = .ok (.lcmp, 1) := by decide +kernel
theorem dX7_compareAt_61 : decode cX7_compareAt 61 = .ok (.ifCond .ge 5, 3) := by decide +kernel
theorem dX7_compareAt_64 : decode cX7_compareAt 64 = .ok (.iconst (-1), 1) := by decide +kernel
theorem dX7_compareAt_65 : decode cX7_compareAt 65 = .ok (.ireturn, 1) := by decide +kernel
theorem dX7_compareAt_66 : decode cX7_compareAt 66 = .ok (.aload_n 0, 1) := by decide +kernel
theorem dX7_compareAt_67 : decode cX7_compareAt 67 = .ok (.getfield 29, 3) := by decide +kernel
theorem dX7_compareAt_70 : decode cX7_compareAt 70 = .ok (.getfield 177, 3) := by decide +kernel
theorem dX7_compareAt_73 : decode cX7_compareAt 73 = .ok (.aload_n 0, 1) := by decide +kernel
theorem dX7_compareAt_74 : decode cX7_compareAt 74 = .ok (.getfield 26, 3) := by decide +kernel
theorem dX7_compareAt_77 : decode cX7_compareAt 77 = .ok (.getfield 181, 3) := by decide +kernel
theorem dX7_compareAt_80 : decode cX7_compareAt 80 = .ok (.lcmp, 1) := by decide +kernel
theorem dX7_compareAt_81 : decode cX7_compareAt 81 = .ok (.ifCond .ge 7, 3) := by decide +kernel
theorem dX7_compareAt_84 : decode cX7_compareAt 84 = .ok (.iconst 1, 1) := by decide +kernel
theorem dX7_compareAt_85 : decode cX7_compareAt 85 = .ok (.goto 4, 3) := by decide +kernel
theorem dX7_compareAt_88 : decode cX7_compareAt 88 = .ok (.iconst 0, 1) := by decide +kernel
theorem dX7_compareAt_89 : decode cX7_compareAt 89 = .ok (.ireturn, 1) := by decide +kernel
set_option maxRecDepth 20000 in
theorem ggX7_sureDecimals_X7_shifted : GoodIn wsX7_sureDecimals wsX7_shifted := goodIn_r _ [8, 9, 10, 11, 7, 12, 13, 14, 15, 16, 17, 18, 19] (by decide +kernel) (by decide +kernel)
set_option maxRecDepth 20000 in
theorem gX7_sureDecimals_X7_shifted : GoodIn wsX7_sureDecimals (va_wsS RX7 194 yX7_shifted wsX7_shifted) := goodIn_app (goodIn_of _ (by decide +kernel)) ggX7_sureDecimals_X7_shifted
theorem dX7_sureDecimals_0 : decode cX7_sureDecimals 0 = .ok (.iconst (-1), 1) := by decide +kernel
theorem dX7_sureDecimals_1 : decode cX7_sureDecimals 1 = .ok (.istore_n 2, 1) := by decide +kernel
theorem dX7_sureDecimals_2 : decode cX7_sureDecimals 2 = .ok (.aload_n 0, 1) := by decide +kernel
theorem dX7_sureDecimals_3 : decode cX7_sureDecimals 3 = .ok (.getfield 22, 3) := by decide +kernel
theorem dX7_sureDecimals_6 : decode cX7_sureDecimals 6 = .ok (.getfield 173, 3) := by decide +kernel
theorem dX7_sureDecimals_9 : decode cX7_sureDecimals 9 = .ok (.ifCond .ne 5, 3) := by decide +kernel
theorem dX7_sureDecimals_12 : decode cX7_sureDecimals 12 = .ok (.iload_n 2, 1) := by decide +kernel
theorem dX7_sureDecimals_13 : decode cX7_sureDecimals 13 = .ok (.ireturn, 1) := by decide +kernel
theorem dX7_sureDecimals_14 : decode cX7_sureDecimals 14 = .ok (.iconst 0, 1) := by decide +kernel
theorem dX7_sureDecimals_15 : decode cX7_sureDecimals 15 = .ok (.istore_n 3, 1) := by decide +kernel
theorem dX7_sureDecimals_16 : decode cX7_sureDecimals 16 = .ok (.iload_n 3, 1) := by decide +kernel
theorem dX7_sureDecimals_17 : decode cX7_sureDecimals 17 = .ok (.bipush 7, 2) := by decide +kernel
theorem dX7_sureDecimals_19 : decode cX7_sureDecimals 19 = .ok (.if_icmp .gt 41, 3) := by decide +kernel
theorem dX7_sureDecimals_22 : decode cX7_sureDecimals 22 = .ok (.aload_n 0, 1) := by decide +kernel
theorem dX7_sureDecimals_23 : decode cX7_sureDecimals 23 = .ok (.getfield 22, 3) := by decide +kernel
theorem dX7_sureDecimals_26 : decode cX7_sureDecimals 26 = .ok (.getfield 181, 3) := by decide +kernel
theorem dX7_sureDecimals_29 : decode cX7_sureDecimals 29 = .ok (.iload_n 3, 1) := by decide +kernel
theorem dX7_sureDecimals_30 : decode cX7_sureDecimals 30 = .ok (.iload_n 1, 1) := by decide +kernel
theorem dX7_sureDecimals_31 : decode cX7_sureDecimals 31 = .ok (.invokestatic 194, 3) := by decide +kernel
theorem dX7_sureDecimals_34 : decode cX7_sureDecimals 34 = .ok (.aload_n 0, 1) := by decide +kernel
theorem dX7_sureDecimals_35 : decode cX7_sureDecimals 35 = .ok (.getfield 22, 3) := by decide +kernel
theorem dX7_sureDecimals_38 : decode cX7_sureDecimals 38 = .ok (.getfield 177, 3) := by decide +kernel
theorem dX7_sureDecimals_41 : decode cX7_sureDecimals 41 = .ok (.iload_n 3, 1) := by decide +kernel
theorem dX7_sureDecimals_42 : decode cX7_sureDecimals 42 = .ok (.iload_n 1, 1) := by decide +kernel
theorem dX7_sureDecimals_43 : decode cX7_sureDecimals 43 = .ok (.invokestatic 194, 3) := by decide +kernel
theorem dX7_sureDecimals_46 : decode cX7_sureDecimals 46 = .ok (.lcmp, 1) := by decide +kernel
theorem dX7_sureDecimals_47 : decode cX7_sureDecimals 47 = .ok (.ifCond .eq 5, 3) := by decide +kernel
theorem dX7_sureDecimals_50 : decode cX7_sureDecimals 50 = .ok (.iload_n 2, 1) := by decide +kernel
theorem dX7_sureDecimals_51 : decode cX7_sureDecimals 51 = .ok (.ireturn, 1) := by decide +kernel
theorem dX7_sureDecimals_52 : decode cX7_sureDecimals 52 = .ok (.iload_n 3, 1) := by decide +kernel
theorem dX7_sureDecimals_53 : decode cX7_sureDecimals 53 = .ok (.istore_n 2, 1) := by decide +kernel
theorem dX7_sureDecimals_54 : decode cX7_sureDecimals 54 = .ok (.iinc 3 1, 3) := by decide +kernel
theorem dX7_sureDecimals_57 : decode cX7_sureDecimals 57 = .ok (.goto (-41), 3) := by decide +kernel
theorem dX7_sureDecimals_60 : decode cX7_sureDecimals 60 = .ok (.iload_n 2, 1) := by decide +kernel
theorem dX7_sureDecimals_61 : decode cX7_sureDecimals 61 = .ok (.ireturn, 1) := by decide +kernel
set_option maxRecDepth 20000 in
theorem ggX7_shifted_X7_unitsAt : GoodIn wsX7_shifted wsX7_unitsAt := goodIn_r _ [5] (by decide +kernel) (by decide +kernel)
set_option maxRecDepth 20000 in
theorem gX7_shifted_X7_unitsAt : GoodIn wsX7_shifted (va_wsS RX7 71 yX7_unitsAt wsX7_unitsAt) := goodIn_app (goodIn_of _ (by decide +kernel)) ggX7_shifted_X7_unitsAt
set_option maxRecDepth 20000 in
theorem ggX7_shifted_X7_cut : GoodIn wsX7_shifted wsX7_cut := goodIn_r _ [8, 9, 10, 11, 12] (by decide +kernel) (by decide +kernel)
set_option maxRecDepth 20000 in
theorem gX7_shifted_X7_cut : GoodIn wsX7_shifted (va_wsS RX7 75 yX7_cut wsX7_cut) := goodIn_app (goodIn_of _ (by decide +kernel)) ggX7_shifted_X7_cut
theorem dX7_shifted_0 : decode cX7_shifted 0 = .ok (.iload_n 2, 1) := by decide +kernel
theorem dX7_shifted_1 : decode cX7_shifted 1 = .ok (.ifCond .lt 19, 3) := by decide +kernel
theorem dX7_shifted_4 : decode cX7_shifted 4 = .ok (.iload_n 2, 1) := by decide +kernel
theorem dX7_shifted_5 : decode cX7_shifted 5 = .ok (.getstatic 314, 3) := by decide +kernel
theorem dX7_shifted_8 : decode cX7_shifted 8 = .ok (.arraylength, 1) := by decide +kernel
theorem dX7_shifted_9 : decode cX7_shifted 9 = .ok (.if_icmp .ge 11, 3) := by decide +kernel
theorem dX7_shifted_12 : decode cX7_shifted 12 = .ok (.getstatic 314, 3) := by decide +kernel
theorem dX7_shifted_15 : decode cX7_shifted 15 = .ok (.iload_n 2, 1) := by decide +kernel
theorem dX7_shifted_16 : decode cX7_shifted 16 = .ok (.laload, 1) := by decide +kernel
theorem dX7_shifted_17 : decode cX7_shifted 17 = .ok (.goto 4, 3) := by decide +kernel
theorem dX7_shifted_20 : decode cX7_shifted 20 = .ok (.lconst 1, 1) := by decide +kernel
theorem dX7_shifted_21 : decode cX7_shifted 21 = .ok (.lstore 4, 2) := by decide +kernel
theorem dX7_shifted_23 : decode cX7_shifted 23 = .ok (.lload_n 0, 1) := by decide +kernel
theorem dX7_shifted_24 : decode cX7_shifted 24 = .ok (.lload 4, 2) := by decide +kernel
theorem dX7_shifted_26 : decode cX7_shifted 26 = .ok (.lmul, 1) := by decide +kernel
theorem dX7_shifted_27 : decode cX7_shifted 27 = .ok (.iload_n 3, 1) := by decide +kernel
theorem dX7_shifted_28 : decode cX7_shifted 28 = .ok (.invokestatic 71, 3) := by decide +kernel
theorem dX7_shifted_31 : decode cX7_shifted 31 = .ok (.invokestatic 75, 3) := by decide +kernel
theorem dX7_shifted_34 : decode cX7_shifted 34 = .ok (.lreturn, 1) := by decide +kernel
set_option maxRecDepth 20000 in
theorem ggX7_isQuotientSure_X1_whole : GoodIn wsX7_isQuotientSure wsX1_whole := goodIn_r _ [8, 9, 10, 11, 12, 13, 14, 15, 16, 17, 26, 27] (by decide +kernel) (by decide +kernel)
set_option maxRecDepth 20000 in
theorem gX7_isQuotientSure_X1_whole : GoodIn wsX7_isQuotientSure (wsV RX7 217 RX1 yX1_whole wsX1_whole) := goodIn_app (goodIn_of _ (by decide +kernel)) ggX7_isQuotientSure_X1_whole
theorem dX7_isQuotientSure_0 : decode cX7_isQuotientSure 0 = .ok (.aload_n 0, 1) := by decide +kernel
theorem dX7_isQuotientSure_1 : decode cX7_isQuotientSure 1 = .ok (.getfield 44, 3) := by decide +kernel
theorem dX7_isQuotientSure_4 : decode cX7_isQuotientSure 4 = .ok (.getfield 318, 3) := by decide +kernel
theorem dX7_isQuotientSure_7 : decode cX7_isQuotientSure 7 = .ok (.lconst 0, 1) := by decide +kernel
theorem dX7_isQuotientSure_8 : decode cX7_isQuotientSure 8 = .ok (.lcmp, 1) := by decide +kernel
theorem dX7_isQuotientSure_9 : decode cX7_isQuotientSure 9 = .ok (.ifCond .eq 37, 3) := by decide +kernel
theorem dX7_isQuotientSure_12 : decode cX7_isQuotientSure 12 = .ok (.aload_n 0, 1) := by decide +kernel
theorem dX7_isQuotientSure_13 : decode cX7_isQuotientSure 13 = .ok (.getfield 48, 3) := by decide +kernel
theorem dX7_isQuotientSure_16 : decode cX7_isQuotientSure 16 = .ok (.getfield 318, 3) := by decide +kernel
theorem dX7_isQuotientSure_19 : decode cX7_isQuotientSure 19 = .ok (.lconst 0, 1) := by decide +kernel
theorem dX7_isQuotientSure_20 : decode cX7_isQuotientSure 20 = .ok (.lcmp, 1) := by decide +kernel
theorem dX7_isQuotientSure_21 : decode cX7_isQuotientSure 21 = .ok (.ifCond .eq 25, 3) := by decide +kernel
theorem dX7_isQuotientSure_24 : decode cX7_isQuotientSure 24 = .ok (.aload_n 0, 1) := by decide +kernel
theorem dX7_isQuotientSure_25 : decode cX7_isQuotientSure 25 = .ok (.getfield 44, 3) := by decide +kernel
theorem dX7_isQuotientSure_28 : decode cX7_isQuotientSure 28 = .ok (.invokevirtual 217, 3) := by decide +kernel
theorem dX7_isQuotientSure_31 : decode cX7_isQuotientSure 31 = .ok (.aload_n 0, 1) := by decide +kernel
theorem dX7_isQuotientSure_32 : decode cX7_isQuotientSure 32 = .ok (.getfield 48, 3) := by decide +kernel
theorem dX7_isQuotientSure_35 : decode cX7_isQuotientSure 35 = .ok (.invokevirtual 217, 3) := by decide +kernel
theorem dX7_isQuotientSure_38 : decode cX7_isQuotientSure 38 = .ok (.lcmp, 1) := by decide +kernel
theorem dX7_isQuotientSure_39 : decode cX7_isQuotientSure 39 = .ok (.ifCond .ne 7, 3) := by decide +kernel
theorem dX7_isQuotientSure_42 : decode cX7_isQuotientSure 42 = .ok (.iconst 1, 1) := by decide +kernel
theorem dX7_isQuotientSure_43 : decode cX7_isQuotientSure 43 = .ok (.goto 4, 3) := by decide +kernel
theorem dX7_isQuotientSure_46 : decode cX7_isQuotientSure 46 = .ok (.iconst 0, 1) := by decide +kernel
theorem dX7_isQuotientSure_47 : decode cX7_isQuotientSure 47 = .ok (.ireturn, 1) := by decide +kernel
set_option maxRecDepth 20000 in
theorem ggX7_digitAt_X6_load : GoodIn wsX7_digitAt wsX6_load := goodIn_r _ [13, 14, 15, 16, 17, 18, 19, 20, 21, 22, 23, 24, 25, 26, 27, 28, 52, 53, 54, 49, 50, 51] (by decide +kernel) (by decide +kernel)
set_option maxRecDepth 20000 in
theorem gX7_digitAt_X6_load : GoodIn wsX7_digitAt (wsV RX7 152 RX6 yX6_load wsX6_load) := goodIn_app (goodIn_of _ (by decide +kernel)) ggX7_digitAt_X6_load
set_option maxRecDepth 20000 in
theorem ggX7_digitAt_X7_unitsAt : GoodIn wsX7_digitAt wsX7_unitsAt := goodIn_r _ [32] (by decide +kernel) (by decide +kernel)
set_option maxRecDepth 20000 in
theorem gX7_digitAt_X7_unitsAt : GoodIn wsX7_digitAt (va_wsS RX7 71 yX7_unitsAt wsX7_unitsAt) := goodIn_app (goodIn_of _ (by decide +kernel)) ggX7_digitAt_X7_unitsAt
theorem dX7_digitAt_0 : decode cX7_digitAt 0 = .ok (.aload_n 1, 1) := by decide +kernel
theorem dX7_digitAt_1 : decode cX7_digitAt 1 = .ok (.getfield 170, 3) := by decide +kernel
theorem dX7_digitAt_4 : decode cX7_digitAt 4 = .ok (.iload_n 2, 1) := by decide +kernel
theorem dX7_digitAt_5 : decode cX7_digitAt 5 = .ok (.aload_n 0, 1) := by decide +kernel
theorem dX7_digitAt_6 : decode cX7_digitAt 6 = .ok (.getfield 22, 3) := by decide +kernel
theorem dX7_digitAt_9 : decode cX7_digitAt 9 = .ok (.invokevirtual 152, 3) := by decide +kernel
theorem dX7_digitAt_12 : decode cX7_digitAt 12 = .ok (.aload_n 0, 1) := by decide +kernel
theorem dX7_digitAt_13 : decode cX7_digitAt 13 = .ok (.getfield 22, 3) := by decide +kernel
theorem dX7_digitAt_16 : decode cX7_digitAt 16 = .ok (.getfield 173, 3) := by decide +kernel
theorem dX7_digitAt_19 : decode cX7_digitAt 19 = .ok (.ifCond .ne 5, 3) := by decide +kernel
theorem dX7_digitAt_22 : decode cX7_digitAt 22 = .ok (.iconst 2, 1) := by decide +kernel
theorem dX7_digitAt_23 : decode cX7_digitAt 23 = .ok (.ireturn, 1) := by decide +kernel
theorem dX7_digitAt_24 : decode cX7_digitAt 24 = .ok (.iload_n 2, 1) := by decide +kernel
theorem dX7_digitAt_25 : decode cX7_digitAt 25 = .ok (.aload_n 1, 1) := by decide +kernel
theorem dX7_digitAt_26 : decode cX7_digitAt 26 = .ok (.getfield 220, 3) := by decide +kernel
theorem dX7_digitAt_29 : decode cX7_digitAt 29 = .ok (.isub, 1) := by decide +kernel
theorem dX7_digitAt_30 : decode cX7_digitAt 30 = .ok (.invokestatic 71, 3) := by decide +kernel
theorem dX7_digitAt_33 : decode cX7_digitAt 33 = .ok (.lstore_n 3, 1) := by decide +kernel
theorem dX7_digitAt_34 : decode cX7_digitAt 34 = .ok (.aload_n 0, 1) := by decide +kernel
theorem dX7_digitAt_35 : decode cX7_digitAt 35 = .ok (.getfield 22, 3) := by decide +kernel
theorem dX7_digitAt_38 : decode cX7_digitAt 38 = .ok (.getfield 181, 3) := by decide +kernel
theorem dX7_digitAt_41 : decode cX7_digitAt 41 = .ok (.aload_n 1, 1) := by decide +kernel
theorem dX7_digitAt_42 : decode cX7_digitAt 42 = .ok (.getfield 231, 3) := by decide +kernel
theorem dX7_digitAt_45 : decode cX7_digitAt 45 = .ok (.lload_n 3, 1) := by decide +kernel
theorem dX7_digitAt_46 : decode cX7_digitAt 46 = .ok (.lmul, 1) := by decide +kernel
theorem dX7_digitAt_47 : decode cX7_digitAt 47 = .ok (.lsub, 1) := by decide +kernel
theorem dX7_digitAt_48 : decode cX7_digitAt 48 = .ok (.lstore 5, 2) := by decide +kernel
theorem dX7_digitAt_50 : decode cX7_digitAt 50 = .ok (.aload_n 0, 1) := by decide +kernel
theorem dX7_digitAt_51 : decode cX7_digitAt 51 = .ok (.getfield 22, 3) := by decide +kernel
theorem dX7_digitAt_54 : decode cX7_digitAt 54 = .ok (.getfield 177, 3) := by decide +kernel
theorem dX7_digitAt_57 : decode cX7_digitAt 57 = .ok (.aload_n 1, 1) := by decide +kernel
theorem dX7_digitAt_58 : decode cX7_digitAt 58 = .ok (.getfield 231, 3) := by decide +kernel
theorem dX7_digitAt_61 : decode cX7_digitAt 61 = .ok (.lload_n 3, 1) := by decide +kernel
theorem dX7_digitAt_62 : decode cX7_digitAt 62 = .ok (.lmul, 1) := by decide +kernel
theorem dX7_digitAt_63 : decode cX7_digitAt 63 = .ok (.lsub, 1) := by decide +kernel
theorem dX7_digitAt_64 : decode cX7_digitAt 64 = .ok (.lstore 7, 2) := by decide +kernel
theorem dX7_digitAt_66 : decode cX7_digitAt 66 = .ok (.aload_n 1, 1) := by decide +kernel
theorem dX7_digitAt_67 : decode cX7_digitAt 67 = .ok (.getfield 220, 3) := by decide +kernel
theorem dX7_digitAt_70 : decode cX7_digitAt 70 = .ok (.ifCond .ne 20, 3) := by decide +kernel
theorem dX7_digitAt_73 : decode cX7_digitAt 73 = .ok (.lload 5, 2) := by decide +kernel
theorem dX7_digitAt_75 : decode cX7_digitAt 75 = .ok (.lload_n 3, 1) := by decide +kernel
theorem dX7_digitAt_76 : decode cX7_digitAt 76 = .ok (.lneg, 1) := by decide +kernel
theorem dX7_digitAt_77 : decode cX7_digitAt 77 = .ok (.lcmp, 1) := by decide +kernel
theorem dX7_digitAt_78 : decode cX7_digitAt 78 = .ok (.ifCond .lt 10, 3) := by decide +kernel
theorem dX7_digitAt_81 : decode cX7_digitAt 81 = .ok (.lload 7, 2) := by decide +kernel
theorem dX7_digitAt_83 : decode cX7_digitAt 83 = .ok (.lload_n 3, 1) := by decide +kernel
theorem dX7_digitAt_84 : decode cX7_digitAt 84 = .ok (.lcmp, 1) := by decide +kernel
theorem dX7_digitAt_85 : decode cX7_digitAt 85 = .ok (.ifCond .le 5, 3) := by decide +kernel
theorem dX7_digitAt_88 : decode cX7_digitAt 88 = .ok (.iconst 2, 1) := by decide +kernel
theorem dX7_digitAt_89 : decode cX7_digitAt 89 = .ok (.ireturn, 1) := by decide +kernel
theorem dX7_digitAt_90 : decode cX7_digitAt 90 = .ok (.ldc2_w 229, 3) := by decide +kernel
theorem dX7_digitAt_93 : decode cX7_digitAt 93 = .ok (.lload 5, 2) := by decide +kernel
theorem dX7_digitAt_95 : decode cX7_digitAt 95 = .ok (.lmul, 1) := by decide +kernel
theorem dX7_digitAt_96 : decode cX7_digitAt 96 = .ok (.lload_n 3, 1) := by decide +kernel
theorem dX7_digitAt_97 : decode cX7_digitAt 97 = .ok (.lneg, 1) := by decide +kernel
theorem dX7_digitAt_98 : decode cX7_digitAt 98 = .ok (.lcmp, 1) := by decide +kernel
theorem dX7_digitAt_99 : decode cX7_digitAt 99 = .ok (.ifCond .lt 16, 3) := by decide +kernel
theorem dX7_digitAt_102 : decode cX7_digitAt 102 = .ok (.ldc2_w 229, 3) := by decide +kernel
theorem dX7_digitAt_105 : decode cX7_digitAt 105 = .ok (.lload 7, 2) := by decide +kernel
theorem dX7_digitAt_107 : decode cX7_digitAt 107 = .ok (.lmul, 1) := by decide +kernel
theorem dX7_digitAt_108 : decode cX7_digitAt 108 = .ok (.lload_n 3, 1) := by decide +kernel
theorem dX7_digitAt_109 : decode cX7_digitAt 109 = .ok (.lcmp, 1) := by decide +kernel
theorem dX7_digitAt_110 : decode cX7_digitAt 110 = .ok (.ifCond .gt 5, 3) := by decide +kernel
theorem dX7_digitAt_113 : decode cX7_digitAt 113 = .ok (.iconst 0, 1) := by decide +kernel
theorem dX7_digitAt_114 : decode cX7_digitAt 114 = .ok (.ireturn, 1) := by decide +kernel
theorem dX7_digitAt_115 : decode cX7_digitAt 115 = .ok (.lload 5, 2) := by decide +kernel
theorem dX7_digitAt_117 : decode cX7_digitAt 117 = .ok (.lconst 0, 1) := by decide +kernel
theorem dX7_digitAt_118 : decode cX7_digitAt 118 = .ok (.lcmp, 1) := by decide +kernel
theorem dX7_digitAt_119 : decode cX7_digitAt 119 = .ok (.ifCond .lt 5, 3) := by decide +kernel
theorem dX7_digitAt_122 : decode cX7_digitAt 122 = .ok (.iconst 1, 1) := by decide +kernel
theorem dX7_digitAt_123 : decode cX7_digitAt 123 = .ok (.ireturn, 1) := by decide +kernel
theorem dX7_digitAt_124 : decode cX7_digitAt 124 = .ok (.lload 7, 2) := by decide +kernel
theorem dX7_digitAt_126 : decode cX7_digitAt 126 = .ok (.lconst 0, 1) := by decide +kernel
theorem dX7_digitAt_127 : decode cX7_digitAt 127 = .ok (.lcmp, 1) := by decide +kernel
theorem dX7_digitAt_128 : decode cX7_digitAt 128 = .ok (.ifCond .gt 7, 3) := by decide +kernel
theorem dX7_digitAt_131 : decode cX7_digitAt 131 = .ok (.iconst (-1), 1) := by decide +kernel
theorem dX7_digitAt_132 : decode cX7_digitAt 132 = .ok (.goto 4, 3) := by decide +kernel
theorem dX7_digitAt_135 : decode cX7_digitAt 135 = .ok (.iconst 2, 1) := by decide +kernel
theorem dX7_digitAt_136 : decode cX7_digitAt 136 = .ok (.ireturn, 1) := by decide +kernel
theorem dX7_unitsAt_0 : decode cX7_unitsAt 0 = .ok (.lconst 1, 1) := by decide +kernel
theorem dX7_unitsAt_1 : decode cX7_unitsAt 1 = .ok (.iload_n 0, 1) := by decide +kernel
theorem dX7_unitsAt_2 : decode cX7_unitsAt 2 = .ok (.lshl, 1) := by decide +kernel
theorem dX7_unitsAt_3 : decode cX7_unitsAt 3 = .ok (.lreturn, 1) := by decide +kernel
set_option maxRecDepth 20000 in
theorem ggX7_cut_J9_floorDiv_f86c9 : GoodIn wsX7_cut wsJ9_floorDiv_f86c9 := goodIn_r _ [4] (by decide +kernel) (by decide +kernel)
set_option maxRecDepth 20000 in
theorem gX7_cut_J9_floorDiv_f86c9 : GoodIn wsX7_cut (va_wsS RX7 321 yJ9_floorDiv_f86c9 wsJ9_floorDiv_f86c9) := goodIn_app (goodIn_of _ (by decide +kernel)) ggX7_cut_J9_floorDiv_f86c9
theorem dX7_cut_0 : decode cX7_cut 0 = .ok (.lload_n 2, 1) := by decide +kernel
theorem dX7_cut_1 : decode cX7_cut 1 = .ok (.lconst 0, 1) := by decide +kernel
theorem dX7_cut_2 : decode cX7_cut 2 = .ok (.lcmp, 1) := by decide +kernel
theorem dX7_cut_3 : decode cX7_cut 3 = .ok (.ifCond .ne 7, 3) := by decide +kernel
theorem dX7_cut_6 : decode cX7_cut 6 = .ok (.lconst 0, 1) := by decide +kernel
theorem dX7_cut_7 : decode cX7_cut 7 = .ok (.goto 8, 3) := by decide +kernel
theorem dX7_cut_10 : decode cX7_cut 10 = .ok (.lload_n 0, 1) := by decide +kernel
theorem dX7_cut_11 : decode cX7_cut 11 = .ok (.lload_n 2, 1) := by decide +kernel
theorem dX7_cut_12 : decode cX7_cut 12 = .ok (.invokestatic 321, 3) := by decide +kernel
theorem dX7_cut_15 : decode cX7_cut 15 = .ok (.lreturn, 1) := by decide +kernel
set_option maxRecDepth 20000 in
theorem ggX7_fill_J9_floorDiv_f86c9 : GoodIn wsX7_fill wsJ9_floorDiv_f86c9 := goodIn_r _ [4] (by decide +kernel) (by decide +kernel)
set_option maxRecDepth 20000 in
theorem gX7_fill_J9_floorDiv_f86c9 : GoodIn wsX7_fill (va_wsS RX7 321 yJ9_floorDiv_f86c9 wsJ9_floorDiv_f86c9) := goodIn_app (goodIn_of _ (by decide +kernel)) ggX7_fill_J9_floorDiv_f86c9
theorem dX7_fill_0 : decode cX7_fill 0 = .ok (.lload_n 2, 1) := by decide +kernel
theorem dX7_fill_1 : decode cX7_fill 1 = .ok (.lconst 0, 1) := by decide +kernel
theorem dX7_fill_2 : decode cX7_fill 2 = .ok (.lcmp, 1) := by decide +kernel
theorem dX7_fill_3 : decode cX7_fill 3 = .ok (.ifCond .ne 7, 3) := by decide +kernel
theorem dX7_fill_6 : decode cX7_fill 6 = .ok (.lconst 0, 1) := by decide +kernel
theorem dX7_fill_7 : decode cX7_fill 7 = .ok (.goto 10, 3) := by decide +kernel
theorem dX7_fill_10 : decode cX7_fill 10 = .ok (.lload_n 0, 1) := by decide +kernel
theorem dX7_fill_11 : decode cX7_fill 11 = .ok (.lneg, 1) := by decide +kernel
theorem dX7_fill_12 : decode cX7_fill 12 = .ok (.lload_n 2, 1) := by decide +kernel
theorem dX7_fill_13 : decode cX7_fill 13 = .ok (.invokestatic 321, 3) := by decide +kernel
theorem dX7_fill_16 : decode cX7_fill 16 = .ok (.lneg, 1) := by decide +kernel
theorem dX7_fill_17 : decode cX7_fill 17 = .ok (.lreturn, 1) := by decide +kernel
theorem dX7_cutRoot_0 : decode cX7_cutRoot 0 = .ok (.lconst 0, 1) := by decide +kernel
theorem dX7_cutRoot_1 : decode cX7_cutRoot 1 = .ok (.lstore_n 2, 1) := by decide +kernel
theorem dX7_cutRoot_2 : decode cX7_cutRoot 2 = .ok (.bipush 30, 2) := by decide +kernel
theorem dX7_cutRoot_4 : decode cX7_cutRoot 4 = .ok (.istore 4, 2) := by decide +kernel
theorem dX7_cutRoot_6 : decode cX7_cutRoot 6 = .ok (.iload 4, 2) := by decide +kernel
theorem dX7_cutRoot_8 : decode cX7_cutRoot 8 = .ok (.ifCond .lt 30, 3) := by decide +kernel
theorem dX7_cutRoot_11 : decode cX7_cutRoot 11 = .ok (.lload_n 2, 1) := by decide +kernel
theorem dX7_cutRoot_12 : decode cX7_cutRoot 12 = .ok (.lconst 1, 1) := by decide +kernel
theorem dX7_cutRoot_13 : decode cX7_cutRoot 13 = .ok (.iload 4, 2) := by decide +kernel
theorem dX7_cutRoot_15 : decode cX7_cutRoot 15 = .ok (.lshl, 1) := by decide +kernel
theorem dX7_cutRoot_16 : decode cX7_cutRoot 16 = .ok (.ladd, 1) := by decide +kernel
theorem dX7_cutRoot_17 : decode cX7_cutRoot 17 = .ok (.lstore 5, 2) := by decide +kernel
theorem dX7_cutRoot_19 : decode cX7_cutRoot 19 = .ok (.lload 5, 2) := by decide +kernel
theorem dX7_cutRoot_21 : decode cX7_cutRoot 21 = .ok (.lload 5, 2) := by decide +kernel
theorem dX7_cutRoot_23 : decode cX7_cutRoot 23 = .ok (.lmul, 1) := by decide +kernel
theorem dX7_cutRoot_24 : decode cX7_cutRoot 24 = .ok (.lload_n 0, 1) := by decide +kernel
theorem dX7_cutRoot_25 : decode cX7_cutRoot 25 = .ok (.lcmp, 1) := by decide +kernel
theorem dX7_cutRoot_26 : decode cX7_cutRoot 26 = .ok (.ifCond .gt 6, 3) := by decide +kernel
theorem dX7_cutRoot_29 : decode cX7_cutRoot 29 = .ok (.lload 5, 2) := by decide +kernel
theorem dX7_cutRoot_31 : decode cX7_cutRoot 31 = .ok (.lstore_n 2, 1) := by decide +kernel
theorem dX7_cutRoot_32 : decode cX7_cutRoot 32 = .ok (.iinc 4 (-1), 3) := by decide +kernel
theorem dX7_cutRoot_35 : decode cX7_cutRoot 35 = .ok (.goto (-29), 3) := by decide +kernel
theorem dX7_cutRoot_38 : decode cX7_cutRoot 38 = .ok (.lload_n 2, 1) := by decide +kernel
theorem dX7_cutRoot_39 : decode cX7_cutRoot 39 = .ok (.lreturn, 1) := by decide +kernel
set_option maxRecDepth 20000 in
theorem ggX7_fillRoot_X7_cutRoot : GoodIn wsX7_fillRoot wsX7_cutRoot := goodIn_r _ [4] (by decide +kernel) (by decide +kernel)
set_option maxRecDepth 20000 in
theorem gX7_fillRoot_X7_cutRoot : GoodIn wsX7_fillRoot (va_wsS RX7 324 yX7_cutRoot wsX7_cutRoot) := goodIn_app (goodIn_of _ (by decide +kernel)) ggX7_fillRoot_X7_cutRoot
theorem dX7_fillRoot_0 : decode cX7_fillRoot 0 = .ok (.lload_n 0, 1) := by decide +kernel
theorem dX7_fillRoot_1 : decode cX7_fillRoot 1 = .ok (.invokestatic 324, 3) := by decide +kernel
theorem dX7_fillRoot_4 : decode cX7_fillRoot 4 = .ok (.lstore_n 2, 1) := by decide +kernel
theorem dX7_fillRoot_5 : decode cX7_fillRoot 5 = .ok (.lload_n 2, 1) := by decide +kernel
theorem dX7_fillRoot_6 : decode cX7_fillRoot 6 = .ok (.lload_n 2, 1) := by decide +kernel
theorem dX7_fillRoot_7 : decode cX7_fillRoot 7 = .ok (.lmul, 1) := by decide +kernel
theorem dX7_fillRoot_8 : decode cX7_fillRoot 8 = .ok (.lload_n 0, 1) := by decide +kernel
theorem dX7_fillRoot_9 : decode cX7_fillRoot 9 = .ok (.lcmp, 1) := by decide +kernel
theorem dX7_fillRoot_10 : decode cX7_fillRoot 10 = .ok (.ifCond .ge 9, 3) := by decide +kernel
theorem dX7_fillRoot_13 : decode cX7_fillRoot 13 = .ok (.lload_n 2, 1) := by decide +kernel
theorem dX7_fillRoot_14 : decode cX7_fillRoot 14 = .ok (.lconst 1, 1) := by decide +kernel
theorem dX7_fillRoot_15 : decode cX7_fillRoot 15 = .ok (.ladd, 1) := by decide +kernel
theorem dX7_fillRoot_16 : decode cX7_fillRoot 16 = .ok (.goto 4, 3) := by decide +kernel
theorem dX7_fillRoot_19 : decode cX7_fillRoot 19 = .ok (.lload_n 2, 1) := by decide +kernel
theorem dX7_fillRoot_20 : decode cX7_fillRoot 20 = .ok (.lreturn, 1) := by decide +kernel
theorem dJx29ce0_ordinal_8abf5_0 : decode cJx29ce0_ordinal_8abf5 0 = .ok (.aload_n 0, 1) := by decide +kernel
theorem dJx29ce0_ordinal_8abf5_1 : decode cJx29ce0_ordinal_8abf5 1 = .ok (.getfield 7, 3) := by decide +kernel
theorem dJx29ce0_ordinal_8abf5_4 : decode cJx29ce0_ordinal_8abf5 4 = .ok (.ireturn, 1) := by decide +kernel
theorem dJ13_bitCount_95d88_0 : decode cJ13_bitCount_95d88 0 = .ok (.lload_n 0, 1) := by decide +kernel
theorem dJ13_bitCount_95d88_1 : decode cJ13_bitCount_95d88 1 = .ok (.lload_n 0, 1) := by decide +kernel
theorem dJ13_bitCount_95d88_2 : decode cJ13_bitCount_95d88 2 = .ok (.iconst 1, 1) := by decide +kernel
theorem dJ13_bitCount_95d88_3 : decode cJ13_bitCount_95d88 3 = .ok (.lushr, 1) := by decide +kernel
theorem dJ13_bitCount_95d88_4 : decode cJ13_bitCount_95d88 4 = .ok (.ldc2_w 314, 3) := by decide +kernel
theorem dJ13_bitCount_95d88_7 : decode cJ13_bitCount_95d88 7 = .ok (.land, 1) := by decide +kernel
theorem dJ13_bitCount_95d88_8 : decode cJ13_bitCount_95d88 8 = .ok (.lsub, 1) := by decide +kernel
theorem dJ13_bitCount_95d88_9 : decode cJ13_bitCount_95d88 9 = .ok (.lstore_n 0, 1) := by decide +kernel
theorem dJ13_bitCount_95d88_10 : decode cJ13_bitCount_95d88 10 = .ok (.lload_n 0, 1) := by decide +kernel
theorem dJ13_bitCount_95d88_11 : decode cJ13_bitCount_95d88 11 = .ok (.ldc2_w 316, 3) := by decide +kernel
theorem dJ13_bitCount_95d88_14 : decode cJ13_bitCount_95d88 14 = .ok (.land, 1) := by decide +kernel
theorem dJ13_bitCount_95d88_15 : decode cJ13_bitCount_95d88 15 = .ok (.lload_n 0, 1) := by decide +kernel
theorem dJ13_bitCount_95d88_16 : decode cJ13_bitCount_95d88 16 = .ok (.iconst 2, 1) := by decide +kernel
theorem dJ13_bitCount_95d88_17 : decode cJ13_bitCount_95d88 17 = .ok (.lushr, 1) := by decide +kernel
theorem dJ13_bitCount_95d88_18 : decode cJ13_bitCount_95d88 18 = .ok (.ldc2_w 316, 3) := by decide +kernel
theorem dJ13_bitCount_95d88_21 : decode cJ13_bitCount_95d88 21 = .ok (.land, 1) := by decide +kernel
theorem dJ13_bitCount_95d88_22 : decode cJ13_bitCount_95d88 22 = .ok (.ladd, 1) := by decide +kernel
theorem dJ13_bitCount_95d88_23 : decode cJ13_bitCount_95d88 23 = .ok (.lstore_n 0, 1) := by decide +kernel
theorem dJ13_bitCount_95d88_24 : decode cJ13_bitCount_95d88 24 = .ok (.lload_n 0, 1) := by decide +kernel
theorem dJ13_bitCount_95d88_25 : decode cJ13_bitCount_95d88 25 = .ok (.lload_n 0, 1) := by decide +kernel
theorem dJ13_bitCount_95d88_26 : decode cJ13_bitCount_95d88 26 = .ok (.iconst 4, 1) := by decide +kernel
theorem dJ13_bitCount_95d88_27 : decode cJ13_bitCount_95d88 27 = .ok (.lushr, 1) := by decide +kernel
theorem dJ13_bitCount_95d88_28 : decode cJ13_bitCount_95d88 28 = .ok (.ladd, 1) := by decide +kernel
theorem dJ13_bitCount_95d88_29 : decode cJ13_bitCount_95d88 29 = .ok (.ldc2_w 318, 3) := by decide +kernel
theorem dJ13_bitCount_95d88_32 : decode cJ13_bitCount_95d88 32 = .ok (.land, 1) := by decide +kernel
theorem dJ13_bitCount_95d88_33 : decode cJ13_bitCount_95d88 33 = .ok (.lstore_n 0, 1) := by decide +kernel
theorem dJ13_bitCount_95d88_34 : decode cJ13_bitCount_95d88 34 = .ok (.lload_n 0, 1) := by decide +kernel
theorem dJ13_bitCount_95d88_35 : decode cJ13_bitCount_95d88 35 = .ok (.lload_n 0, 1) := by decide +kernel
theorem dJ13_bitCount_95d88_36 : decode cJ13_bitCount_95d88 36 = .ok (.bipush 8, 2) := by decide +kernel
theorem dJ13_bitCount_95d88_38 : decode cJ13_bitCount_95d88 38 = .ok (.lushr, 1) := by decide +kernel
theorem dJ13_bitCount_95d88_39 : decode cJ13_bitCount_95d88 39 = .ok (.ladd, 1) := by decide +kernel
theorem dJ13_bitCount_95d88_40 : decode cJ13_bitCount_95d88 40 = .ok (.lstore_n 0, 1) := by decide +kernel
theorem dJ13_bitCount_95d88_41 : decode cJ13_bitCount_95d88 41 = .ok (.lload_n 0, 1) := by decide +kernel
theorem dJ13_bitCount_95d88_42 : decode cJ13_bitCount_95d88 42 = .ok (.lload_n 0, 1) := by decide +kernel
theorem dJ13_bitCount_95d88_43 : decode cJ13_bitCount_95d88 43 = .ok (.bipush 16, 2) := by decide +kernel
theorem dJ13_bitCount_95d88_45 : decode cJ13_bitCount_95d88 45 = .ok (.lushr, 1) := by decide +kernel
theorem dJ13_bitCount_95d88_46 : decode cJ13_bitCount_95d88 46 = .ok (.ladd, 1) := by decide +kernel
theorem dJ13_bitCount_95d88_47 : decode cJ13_bitCount_95d88 47 = .ok (.lstore_n 0, 1) := by decide +kernel
theorem dJ13_bitCount_95d88_48 : decode cJ13_bitCount_95d88 48 = .ok (.lload_n 0, 1) := by decide +kernel
theorem dJ13_bitCount_95d88_49 : decode cJ13_bitCount_95d88 49 = .ok (.lload_n 0, 1) := by decide +kernel
theorem dJ13_bitCount_95d88_50 : decode cJ13_bitCount_95d88 50 = .ok (.bipush 32, 2) := by decide +kernel
theorem dJ13_bitCount_95d88_52 : decode cJ13_bitCount_95d88 52 = .ok (.lushr, 1) := by decide +kernel
theorem dJ13_bitCount_95d88_53 : decode cJ13_bitCount_95d88 53 = .ok (.ladd, 1) := by decide +kernel
theorem dJ13_bitCount_95d88_54 : decode cJ13_bitCount_95d88 54 = .ok (.lstore_n 0, 1) := by decide +kernel
theorem dJ13_bitCount_95d88_55 : decode cJ13_bitCount_95d88 55 = .ok (.lload_n 0, 1) := by decide +kernel
theorem dJ13_bitCount_95d88_56 : decode cJ13_bitCount_95d88 56 = .ok (.l2i, 1) := by decide +kernel
theorem dJ13_bitCount_95d88_57 : decode cJ13_bitCount_95d88 57 = .ok (.bipush 127, 2) := by decide +kernel
theorem dJ13_bitCount_95d88_59 : decode cJ13_bitCount_95d88 59 = .ok (.iand, 1) := by decide +kernel
theorem dJ13_bitCount_95d88_60 : decode cJ13_bitCount_95d88 60 = .ok (.ireturn, 1) := by decide +kernel
theorem dJ13_signum_95d88_0 : decode cJ13_signum_95d88 0 = .ok (.lload_n 0, 1) := by decide +kernel
theorem dJ13_signum_95d88_1 : decode cJ13_signum_95d88 1 = .ok (.bipush 63, 2) := by decide +kernel
theorem dJ13_signum_95d88_3 : decode cJ13_signum_95d88 3 = .ok (.lshr, 1) := by decide +kernel
theorem dJ13_signum_95d88_4 : decode cJ13_signum_95d88 4 = .ok (.lload_n 0, 1) := by decide +kernel
theorem dJ13_signum_95d88_5 : decode cJ13_signum_95d88 5 = .ok (.lneg, 1) := by decide +kernel
theorem dJ13_signum_95d88_6 : decode cJ13_signum_95d88 6 = .ok (.bipush 63, 2) := by decide +kernel
theorem dJ13_signum_95d88_8 : decode cJ13_signum_95d88 8 = .ok (.lushr, 1) := by decide +kernel
theorem dJ13_signum_95d88_9 : decode cJ13_signum_95d88 9 = .ok (.lor, 1) := by decide +kernel
theorem dJ13_signum_95d88_10 : decode cJ13_signum_95d88 10 = .ok (.l2i, 1) := by decide +kernel
theorem dJ13_signum_95d88_11 : decode cJ13_signum_95d88 11 = .ok (.ireturn, 1) := by decide +kernel
theorem dJ9_floorDiv_f86c9_0 : decode cJ9_floorDiv_f86c9 0 = .ok (.lload_n 0, 1) := by decide +kernel
theorem dJ9_floorDiv_f86c9_1 : decode cJ9_floorDiv_f86c9 1 = .ok (.lload_n 2, 1) := by decide +kernel
theorem dJ9_floorDiv_f86c9_2 : decode cJ9_floorDiv_f86c9 2 = .ok (.ldiv, 1) := by decide +kernel
theorem dJ9_floorDiv_f86c9_3 : decode cJ9_floorDiv_f86c9 3 = .ok (.lstore 4, 2) := by decide +kernel
theorem dJ9_floorDiv_f86c9_5 : decode cJ9_floorDiv_f86c9 5 = .ok (.lload_n 0, 1) := by decide +kernel
theorem dJ9_floorDiv_f86c9_6 : decode cJ9_floorDiv_f86c9 6 = .ok (.lload_n 2, 1) := by decide +kernel
theorem dJ9_floorDiv_f86c9_7 : decode cJ9_floorDiv_f86c9 7 = .ok (.lxor, 1) := by decide +kernel
theorem dJ9_floorDiv_f86c9_8 : decode cJ9_floorDiv_f86c9 8 = .ok (.lconst 0, 1) := by decide +kernel
theorem dJ9_floorDiv_f86c9_9 : decode cJ9_floorDiv_f86c9 9 = .ok (.lcmp, 1) := by decide +kernel
theorem dJ9_floorDiv_f86c9_10 : decode cJ9_floorDiv_f86c9 10 = .ok (.ifCond .ge 17, 3) := by decide +kernel
theorem dJ9_floorDiv_f86c9_13 : decode cJ9_floorDiv_f86c9 13 = .ok (.lload 4, 2) := by decide +kernel
theorem dJ9_floorDiv_f86c9_15 : decode cJ9_floorDiv_f86c9 15 = .ok (.lload_n 2, 1) := by decide +kernel
theorem dJ9_floorDiv_f86c9_16 : decode cJ9_floorDiv_f86c9 16 = .ok (.lmul, 1) := by decide +kernel
theorem dJ9_floorDiv_f86c9_17 : decode cJ9_floorDiv_f86c9 17 = .ok (.lload_n 0, 1) := by decide +kernel
theorem dJ9_floorDiv_f86c9_18 : decode cJ9_floorDiv_f86c9 18 = .ok (.lcmp, 1) := by decide +kernel
theorem dJ9_floorDiv_f86c9_19 : decode cJ9_floorDiv_f86c9 19 = .ok (.ifCond .eq 8, 3) := by decide +kernel
theorem dJ9_floorDiv_f86c9_22 : decode cJ9_floorDiv_f86c9 22 = .ok (.lload 4, 2) := by decide +kernel
theorem dJ9_floorDiv_f86c9_24 : decode cJ9_floorDiv_f86c9 24 = .ok (.lconst 1, 1) := by decide +kernel
theorem dJ9_floorDiv_f86c9_25 : decode cJ9_floorDiv_f86c9 25 = .ok (.lsub, 1) := by decide +kernel
theorem dJ9_floorDiv_f86c9_26 : decode cJ9_floorDiv_f86c9 26 = .ok (.lreturn, 1) := by decide +kernel
theorem dJ9_floorDiv_f86c9_27 : decode cJ9_floorDiv_f86c9 27 = .ok (.lload 4, 2) := by decide +kernel
theorem dJ9_floorDiv_f86c9_29 : decode cJ9_floorDiv_f86c9 29 = .ok (.lreturn, 1) := by decide +kernel
theorem dJ9_floorMod_f86c9_0 : decode cJ9_floorMod_f86c9 0 = .ok (.lload_n 0, 1) := by decide +kernel
theorem dJ9_floorMod_f86c9_1 : decode cJ9_floorMod_f86c9 1 = .ok (.lload_n 2, 1) := by decide +kernel
theorem dJ9_floorMod_f86c9_2 : decode cJ9_floorMod_f86c9 2 = .ok (.lrem, 1) := by decide +kernel
theorem dJ9_floorMod_f86c9_3 : decode cJ9_floorMod_f86c9 3 = .ok (.lstore 4, 2) := by decide +kernel
theorem dJ9_floorMod_f86c9_5 : decode cJ9_floorMod_f86c9 5 = .ok (.lload_n 0, 1) := by decide +kernel
theorem dJ9_floorMod_f86c9_6 : decode cJ9_floorMod_f86c9 6 = .ok (.lload_n 2, 1) := by decide +kernel
theorem dJ9_floorMod_f86c9_7 : decode cJ9_floorMod_f86c9 7 = .ok (.lxor, 1) := by decide +kernel
theorem dJ9_floorMod_f86c9_8 : decode cJ9_floorMod_f86c9 8 = .ok (.lconst 0, 1) := by decide +kernel
theorem dJ9_floorMod_f86c9_9 : decode cJ9_floorMod_f86c9 9 = .ok (.lcmp, 1) := by decide +kernel
theorem dJ9_floorMod_f86c9_10 : decode cJ9_floorMod_f86c9 10 = .ok (.ifCond .ge 15, 3) := by decide +kernel
theorem dJ9_floorMod_f86c9_13 : decode cJ9_floorMod_f86c9 13 = .ok (.lload 4, 2) := by decide +kernel
theorem dJ9_floorMod_f86c9_15 : decode cJ9_floorMod_f86c9 15 = .ok (.lconst 0, 1) := by decide +kernel
theorem dJ9_floorMod_f86c9_16 : decode cJ9_floorMod_f86c9 16 = .ok (.lcmp, 1) := by decide +kernel
theorem dJ9_floorMod_f86c9_17 : decode cJ9_floorMod_f86c9 17 = .ok (.ifCond .eq 8, 3) := by decide +kernel
theorem dJ9_floorMod_f86c9_20 : decode cJ9_floorMod_f86c9 20 = .ok (.lload 4, 2) := by decide +kernel
theorem dJ9_floorMod_f86c9_22 : decode cJ9_floorMod_f86c9 22 = .ok (.lload_n 2, 1) := by decide +kernel
theorem dJ9_floorMod_f86c9_23 : decode cJ9_floorMod_f86c9 23 = .ok (.ladd, 1) := by decide +kernel
theorem dJ9_floorMod_f86c9_24 : decode cJ9_floorMod_f86c9 24 = .ok (.lreturn, 1) := by decide +kernel
theorem dJ9_floorMod_f86c9_25 : decode cJ9_floorMod_f86c9 25 = .ok (.lload 4, 2) := by decide +kernel
theorem dJ9_floorMod_f86c9_27 : decode cJ9_floorMod_f86c9 27 = .ok (.lreturn, 1) := by decide +kernel
theorem dJ9_max_f86c9_0 : decode cJ9_max_f86c9 0 = .ok (.lload_n 0, 1) := by decide +kernel
theorem dJ9_max_f86c9_1 : decode cJ9_max_f86c9 1 = .ok (.lload_n 2, 1) := by decide +kernel
theorem dJ9_max_f86c9_2 : decode cJ9_max_f86c9 2 = .ok (.lcmp, 1) := by decide +kernel
theorem dJ9_max_f86c9_3 : decode cJ9_max_f86c9 3 = .ok (.ifCond .lt 7, 3) := by decide +kernel
theorem dJ9_max_f86c9_6 : decode cJ9_max_f86c9 6 = .ok (.lload_n 0, 1) := by decide +kernel
theorem dJ9_max_f86c9_7 : decode cJ9_max_f86c9 7 = .ok (.goto 4, 3) := by decide +kernel
theorem dJ9_max_f86c9_10 : decode cJ9_max_f86c9 10 = .ok (.lload_n 2, 1) := by decide +kernel
theorem dJ9_max_f86c9_11 : decode cJ9_max_f86c9 11 = .ok (.lreturn, 1) := by decide +kernel
theorem dJ9_min_7cf53_0 : decode cJ9_min_7cf53 0 = .ok (.iload_n 0, 1) := by decide +kernel
theorem dJ9_min_7cf53_1 : decode cJ9_min_7cf53 1 = .ok (.iload_n 1, 1) := by decide +kernel
theorem dJ9_min_7cf53_2 : decode cJ9_min_7cf53 2 = .ok (.if_icmp .gt 7, 3) := by decide +kernel
theorem dJ9_min_7cf53_5 : decode cJ9_min_7cf53 5 = .ok (.iload_n 0, 1) := by decide +kernel
theorem dJ9_min_7cf53_6 : decode cJ9_min_7cf53 6 = .ok (.goto 4, 3) := by decide +kernel
theorem dJ9_min_7cf53_9 : decode cJ9_min_7cf53 9 = .ok (.iload_n 1, 1) := by decide +kernel
theorem dJ9_min_7cf53_10 : decode cJ9_min_7cf53 10 = .ok (.ireturn, 1) := by decide +kernel
theorem dJ9_min_f86c9_0 : decode cJ9_min_f86c9 0 = .ok (.lload_n 0, 1) := by decide +kernel
theorem dJ9_min_f86c9_1 : decode cJ9_min_f86c9 1 = .ok (.lload_n 2, 1) := by decide +kernel
theorem dJ9_min_f86c9_2 : decode cJ9_min_f86c9 2 = .ok (.lcmp, 1) := by decide +kernel
theorem dJ9_min_f86c9_3 : decode cJ9_min_f86c9 3 = .ok (.ifCond .gt 7, 3) := by decide +kernel
theorem dJ9_min_f86c9_6 : decode cJ9_min_f86c9 6 = .ok (.lload_n 0, 1) := by decide +kernel
theorem dJ9_min_f86c9_7 : decode cJ9_min_f86c9 7 = .ok (.goto 4, 3) := by decide +kernel
theorem dJ9_min_f86c9_10 : decode cJ9_min_f86c9 10 = .ok (.lload_n 2, 1) := by decide +kernel
theorem dJ9_min_f86c9_11 : decode cJ9_min_f86c9 11 = .ok (.lreturn, 1) := by decide +kernel
