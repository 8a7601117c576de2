theorem dL_ratio_0 : decode cL_ratio 0 = .ok (.aload_n 3, 1) := by decide +kernel
theorem dL_ratio_1 : decode cL_ratio 1 = .ok (.iconst 0, 1) := by decide +kernel
theorem dL_ratio_2 : decode cL_ratio 2 = .ok (.aload_n 0, 1) := by decide +kernel
theorem dL_ratio_3 : decode cL_ratio 3 = .ok (.iload_n 1, 1) := by decide +kernel
theorem dL_ratio_4 : decode cL_ratio 4 = .ok (.iload_n 2, 1) := by decide +kernel
theorem dL_ratio_5 : decode cL_ratio 5 = .ok (.invokevirtual 7, 3) := by decide +kernel
theorem dL_ratio_8 : decode cL_ratio 8 = .ok (.i2l, 1) := by decide +kernel
theorem dL_ratio_9 : decode cL_ratio 9 = .ok (.lastore, 1) := by decide +kernel
theorem dL_ratio_10 : decode cL_ratio 10 = .ok (.goto 11, 3) := by decide +kernel
theorem dL_ratio_13 : decode cL_ratio 13 = .ok (.astore 4, 2) := by decide +kernel
theorem dL_ratio_15 : decode cL_ratio 15 = .ok (.iconst 1, 1) := by decide +kernel
theorem dL_ratio_16 : decode cL_ratio 16 = .ok (.ireturn, 1) := by decide +kernel
theorem dL_ratio_17 : decode cL_ratio 17 = .ok (.astore 4, 2) := by decide +kernel
theorem dL_ratio_19 : decode cL_ratio 19 = .ok (.iconst 2, 1) := by decide +kernel
theorem dL_ratio_20 : decode cL_ratio 20 = .ok (.ireturn, 1) := by decide +kernel
theorem dL_ratio_21 : decode cL_ratio 21 = .ok (.iconst 0, 1) := by decide +kernel
theorem dL_ratio_22 : decode cL_ratio 22 = .ok (.ireturn, 1) := by decide +kernel
theorem dL_sum_0 : decode cL_sum 0 = .ok (.aload_n 3, 1) := by decide +kernel
theorem dL_sum_1 : decode cL_sum 1 = .ok (.iconst 0, 1) := by decide +kernel
theorem dL_sum_2 : decode cL_sum 2 = .ok (.aload_n 0, 1) := by decide +kernel
theorem dL_sum_3 : decode cL_sum 3 = .ok (.iload_n 1, 1) := by decide +kernel
theorem dL_sum_4 : decode cL_sum 4 = .ok (.iload_n 2, 1) := by decide +kernel
theorem dL_sum_5 : decode cL_sum 5 = .ok (.invokevirtual 17, 3) := by decide +kernel
theorem dL_sum_8 : decode cL_sum 8 = .ok (.i2l, 1) := by decide +kernel
theorem dL_sum_9 : decode cL_sum 9 = .ok (.lastore, 1) := by decide +kernel
theorem dL_sum_10 : decode cL_sum 10 = .ok (.goto 11, 3) := by decide +kernel
theorem dL_sum_13 : decode cL_sum 13 = .ok (.astore 4, 2) := by decide +kernel
theorem dL_sum_15 : decode cL_sum 15 = .ok (.iconst 1, 1) := by decide +kernel
theorem dL_sum_16 : decode cL_sum 16 = .ok (.ireturn, 1) := by decide +kernel
theorem dL_sum_17 : decode cL_sum 17 = .ok (.astore 4, 2) := by decide +kernel
theorem dL_sum_19 : decode cL_sum 19 = .ok (.iconst 2, 1) := by decide +kernel
theorem dL_sum_20 : decode cL_sum 20 = .ok (.ireturn, 1) := by decide +kernel
theorem dL_sum_21 : decode cL_sum 21 = .ok (.iconst 0, 1) := by decide +kernel
theorem dL_sum_22 : decode cL_sum 22 = .ok (.ireturn, 1) := by decide +kernel
theorem dL_difference_0 : decode cL_difference 0 = .ok (.aload_n 3, 1) := by decide +kernel
theorem dL_difference_1 : decode cL_difference 1 = .ok (.iconst 0, 1) := by decide +kernel
theorem dL_difference_2 : decode cL_difference 2 = .ok (.aload_n 0, 1) := by decide +kernel
theorem dL_difference_3 : decode cL_difference 3 = .ok (.iload_n 1, 1) := by decide +kernel
theorem dL_difference_4 : decode cL_difference 4 = .ok (.iload_n 2, 1) := by decide +kernel
theorem dL_difference_5 : decode cL_difference 5 = .ok (.invokevirtual 22, 3) := by decide +kernel
theorem dL_difference_8 : decode cL_difference 8 = .ok (.i2l, 1) := by decide +kernel
theorem dL_difference_9 : decode cL_difference 9 = .ok (.lastore, 1) := by decide +kernel
theorem dL_difference_10 : decode cL_difference 10 = .ok (.goto 11, 3) := by decide +kernel
theorem dL_difference_13 : decode cL_difference 13 = .ok (.astore 4, 2) := by decide +kernel
theorem dL_difference_15 : decode cL_difference 15 = .ok (.iconst 1, 1) := by decide +kernel
theorem dL_difference_16 : decode cL_difference 16 = .ok (.ireturn, 1) := by decide +kernel
theorem dL_difference_17 : decode cL_difference 17 = .ok (.astore 4, 2) := by decide +kernel
theorem dL_difference_19 : decode cL_difference 19 = .ok (.iconst 2, 1) := by decide +kernel
theorem dL_difference_20 : decode cL_difference 20 = .ok (.ireturn, 1) := by decide +kernel
theorem dL_difference_21 : decode cL_difference 21 = .ok (.iconst 0, 1) := by decide +kernel
theorem dL_difference_22 : decode cL_difference 22 = .ok (.ireturn, 1) := by decide +kernel
theorem dL_product_0 : decode cL_product 0 = .ok (.aload_n 3, 1) := by decide +kernel
theorem dL_product_1 : decode cL_product 1 = .ok (.iconst 0, 1) := by decide +kernel
theorem dL_product_2 : decode cL_product 2 = .ok (.aload_n 0, 1) := by decide +kernel
theorem dL_product_3 : decode cL_product 3 = .ok (.iload_n 1, 1) := by decide +kernel
theorem dL_product_4 : decode cL_product 4 = .ok (.iload_n 2, 1) := by decide +kernel
theorem dL_product_5 : decode cL_product 5 = .ok (.invokevirtual 25, 3) := by decide +kernel
theorem dL_product_8 : decode cL_product 8 = .ok (.i2l, 1) := by decide +kernel
theorem dL_product_9 : decode cL_product 9 = .ok (.lastore, 1) := by decide +kernel
theorem dL_product_10 : decode cL_product 10 = .ok (.goto 11, 3) := by decide +kernel
theorem dL_product_13 : decode cL_product 13 = .ok (.astore 4, 2) := by decide +kernel
theorem dL_product_15 : decode cL_product 15 = .ok (.iconst 1, 1) := by decide +kernel
theorem dL_product_16 : decode cL_product 16 = .ok (.ireturn, 1) := by decide +kernel
theorem dL_product_17 : decode cL_product 17 = .ok (.astore 4, 2) := by decide +kernel
theorem dL_product_19 : decode cL_product 19 = .ok (.iconst 2, 1) := by decide +kernel
theorem dL_product_20 : decode cL_product 20 = .ok (.ireturn, 1) := by decide +kernel
theorem dL_product_21 : decode cL_product 21 = .ok (.iconst 0, 1) := by decide +kernel
theorem dL_product_22 : decode cL_product 22 = .ok (.ireturn, 1) := by decide +kernel
theorem dL_greater_0 : decode cL_greater 0 = .ok (.aload_n 3, 1) := by decide +kernel
theorem dL_greater_1 : decode cL_greater 1 = .ok (.iconst 0, 1) := by decide +kernel
theorem dL_greater_2 : decode cL_greater 2 = .ok (.aload_n 0, 1) := by decide +kernel
theorem dL_greater_3 : decode cL_greater 3 = .ok (.iload_n 1, 1) := by decide +kernel
theorem dL_greater_4 : decode cL_greater 4 = .ok (.iload_n 2, 1) := by decide +kernel
theorem dL_greater_5 : decode cL_greater 5 = .ok (.invokevirtual 28, 3) := by decide +kernel
theorem dL_greater_8 : decode cL_greater 8 = .ok (.i2l, 1) := by decide +kernel
theorem dL_greater_9 : decode cL_greater 9 = .ok (.lastore, 1) := by decide +kernel
theorem dL_greater_10 : decode cL_greater 10 = .ok (.goto 11, 3) := by decide +kernel
theorem dL_greater_13 : decode cL_greater 13 = .ok (.astore 4, 2) := by decide +kernel
theorem dL_greater_15 : decode cL_greater 15 = .ok (.iconst 1, 1) := by decide +kernel
theorem dL_greater_16 : decode cL_greater 16 = .ok (.ireturn, 1) := by decide +kernel
theorem dL_greater_17 : decode cL_greater 17 = .ok (.astore 4, 2) := by decide +kernel
theorem dL_greater_19 : decode cL_greater 19 = .ok (.iconst 2, 1) := by decide +kernel
theorem dL_greater_20 : decode cL_greater 20 = .ok (.ireturn, 1) := by decide +kernel
theorem dL_greater_21 : decode cL_greater 21 = .ok (.iconst 0, 1) := by decide +kernel
theorem dL_greater_22 : decode cL_greater 22 = .ok (.ireturn, 1) := by decide +kernel
theorem dL_inverse_0 : decode cL_inverse 0 = .ok (.aload_n 2, 1) := by decide +kernel
theorem dL_inverse_1 : decode cL_inverse 1 = .ok (.iconst 0, 1) := by decide +kernel
theorem dL_inverse_2 : decode cL_inverse 2 = .ok (.aload_n 0, 1) := by decide +kernel
theorem dL_inverse_3 : decode cL_inverse 3 = .ok (.iload_n 1, 1) := by decide +kernel
theorem dL_inverse_4 : decode cL_inverse 4 = .ok (.invokevirtual 31, 3) := by decide +kernel
theorem dL_inverse_7 : decode cL_inverse 7 = .ok (.i2l, 1) := by decide +kernel
theorem dL_inverse_8 : decode cL_inverse 8 = .ok (.lastore, 1) := by decide +kernel
theorem dL_inverse_9 : decode cL_inverse 9 = .ok (.goto 9, 3) := by decide +kernel
theorem dL_inverse_12 : decode cL_inverse 12 = .ok (.astore_n 3, 1) := by decide +kernel
theorem dL_inverse_13 : decode cL_inverse 13 = .ok (.iconst 1, 1) := by decide +kernel
theorem dL_inverse_14 : decode cL_inverse 14 = .ok (.ireturn, 1) := by decide +kernel
theorem dL_inverse_15 : decode cL_inverse 15 = .ok (.astore_n 3, 1) := by decide +kernel
theorem dL_inverse_16 : decode cL_inverse 16 = .ok (.iconst 2, 1) := by decide +kernel
theorem dL_inverse_17 : decode cL_inverse 17 = .ok (.ireturn, 1) := by decide +kernel
theorem dL_inverse_18 : decode cL_inverse 18 = .ok (.iconst 0, 1) := by decide +kernel
theorem dL_inverse_19 : decode cL_inverse 19 = .ok (.ireturn, 1) := by decide +kernel
theorem dL_root_0 : decode cL_root 0 = .ok (.aload_n 2, 1) := by decide +kernel
theorem dL_root_1 : decode cL_root 1 = .ok (.iconst 0, 1) := by decide +kernel
theorem dL_root_2 : decode cL_root 2 = .ok (.aload_n 0, 1) := by decide +kernel
theorem dL_root_3 : decode cL_root 3 = .ok (.iload_n 1, 1) := by decide +kernel
theorem dL_root_4 : decode cL_root 4 = .ok (.invokevirtual 35, 3) := by decide +kernel
theorem dL_root_7 : decode cL_root 7 = .ok (.i2l, 1) := by decide +kernel
theorem dL_root_8 : decode cL_root 8 = .ok (.lastore, 1) := by decide +kernel
theorem dL_root_9 : decode cL_root 9 = .ok (.goto 9, 3) := by decide +kernel
theorem dL_root_12 : decode cL_root 12 = .ok (.astore_n 3, 1) := by decide +kernel
theorem dL_root_13 : decode cL_root 13 = .ok (.iconst 1, 1) := by decide +kernel
theorem dL_root_14 : decode cL_root 14 = .ok (.ireturn, 1) := by decide +kernel
theorem dL_root_15 : decode cL_root 15 = .ok (.astore_n 3, 1) := by decide +kernel
theorem dL_root_16 : decode cL_root 16 = .ok (.iconst 2, 1) := by decide +kernel
theorem dL_root_17 : decode cL_root 17 = .ok (.ireturn, 1) := by decide +kernel
theorem dL_root_18 : decode cL_root 18 = .ok (.iconst 0, 1) := by decide +kernel
theorem dL_root_19 : decode cL_root 19 = .ok (.ireturn, 1) := by decide +kernel
theorem dL_exp_0 : decode cL_exp 0 = .ok (.aload_n 2, 1) := by decide +kernel
theorem dL_exp_1 : decode cL_exp 1 = .ok (.iconst 0, 1) := by decide +kernel
theorem dL_exp_2 : decode cL_exp 2 = .ok (.aload_n 0, 1) := by decide +kernel
theorem dL_exp_3 : decode cL_exp 3 = .ok (.iload_n 1, 1) := by decide +kernel
theorem dL_exp_4 : decode cL_exp 4 = .ok (.invokevirtual 38, 3) := by decide +kernel
theorem dL_exp_7 : decode cL_exp 7 = .ok (.i2l, 1) := by decide +kernel
theorem dL_exp_8 : decode cL_exp 8 = .ok (.lastore, 1) := by decide +kernel
theorem dL_exp_9 : decode cL_exp 9 = .ok (.goto 9, 3) := by decide +kernel
theorem dL_exp_12 : decode cL_exp 12 = .ok (.astore_n 3, 1) := by decide +kernel
theorem dL_exp_13 : decode cL_exp 13 = .ok (.iconst 1, 1) := by decide +kernel
theorem dL_exp_14 : decode cL_exp 14 = .ok (.ireturn, 1) := by decide +kernel
theorem dL_exp_15 : decode cL_exp 15 = .ok (.astore_n 3, 1) := by decide +kernel
theorem dL_exp_16 : decode cL_exp 16 = .ok (.iconst 2, 1) := by decide +kernel
theorem dL_exp_17 : decode cL_exp 17 = .ok (.ireturn, 1) := by decide +kernel
theorem dL_exp_18 : decode cL_exp 18 = .ok (.iconst 0, 1) := by decide +kernel
theorem dL_exp_19 : decode cL_exp 19 = .ok (.ireturn, 1) := by decide +kernel
theorem dL_zero_0 : decode cL_zero 0 = .ok (.aload 7, 2) := by decide +kernel
theorem dL_zero_2 : decode cL_zero 2 = .ok (.iconst 0, 1) := by decide +kernel
theorem dL_zero_3 : decode cL_zero 3 = .ok (.aload_n 0, 1) := by decide +kernel
theorem dL_zero_4 : decode cL_zero 4 = .ok (.iload_n 1, 1) := by decide +kernel
theorem dL_zero_5 : decode cL_zero 5 = .ok (.iload_n 2, 1) := by decide +kernel
theorem dL_zero_6 : decode cL_zero 6 = .ok (.iload_n 3, 1) := by decide +kernel
theorem dL_zero_7 : decode cL_zero 7 = .ok (.iload 4, 2) := by decide +kernel
theorem dL_zero_9 : decode cL_zero 9 = .ok (.iload 5, 2) := by decide +kernel
theorem dL_zero_11 : decode cL_zero 11 = .ok (.iload 6, 2) := by decide +kernel
theorem dL_zero_13 : decode cL_zero 13 = .ok (.invokevirtual 41, 3) := by decide +kernel
theorem dL_zero_16 : decode cL_zero 16 = .ok (.i2l, 1) := by decide +kernel
theorem dL_zero_17 : decode cL_zero 17 = .ok (.lastore, 1) := by decide +kernel
theorem dL_zero_18 : decode cL_zero 18 = .ok (.goto 11, 3) := by decide +kernel
theorem dL_zero_21 : decode cL_zero 21 = .ok (.astore 8, 2) := by decide +kernel
theorem dL_zero_23 : decode cL_zero 23 = .ok (.iconst 1, 1) := by decide +kernel
theorem dL_zero_24 : decode cL_zero 24 = .ok (.ireturn, 1) := by decide +kernel
theorem dL_zero_25 : decode cL_zero 25 = .ok (.astore 8, 2) := by decide +kernel
theorem dL_zero_27 : decode cL_zero 27 = .ok (.iconst 2, 1) := by decide +kernel
theorem dL_zero_28 : decode cL_zero 28 = .ok (.ireturn, 1) := by decide +kernel
theorem dL_zero_29 : decode cL_zero 29 = .ok (.iconst 0, 1) := by decide +kernel
theorem dL_zero_30 : decode cL_zero 30 = .ok (.ireturn, 1) := by decide +kernel
theorem dL_raw_0 : decode cL_raw 0 = .ok (.aload 4, 2) := by decide +kernel
theorem dL_raw_2 : decode cL_raw 2 = .ok (.iconst 0, 1) := by decide +kernel
theorem dL_raw_3 : decode cL_raw 3 = .ok (.aload_n 0, 1) := by decide +kernel
theorem dL_raw_4 : decode cL_raw 4 = .ok (.iload_n 1, 1) := by decide +kernel
theorem dL_raw_5 : decode cL_raw 5 = .ok (.iload_n 2, 1) := by decide +kernel
theorem dL_raw_6 : decode cL_raw 6 = .ok (.iload_n 3, 1) := by decide +kernel
theorem dL_raw_7 : decode cL_raw 7 = .ok (.invokevirtual 45, 3) := by decide +kernel
theorem dL_raw_10 : decode cL_raw 10 = .ok (.lastore, 1) := by decide +kernel
theorem dL_raw_11 : decode cL_raw 11 = .ok (.goto 15, 3) := by decide +kernel
theorem dL_raw_14 : decode cL_raw 14 = .ok (.astore 5, 2) := by decide +kernel
theorem dL_raw_16 : decode cL_raw 16 = .ok (.iconst 1, 1) := by decide +kernel
theorem dL_raw_17 : decode cL_raw 17 = .ok (.ireturn, 1) := by decide +kernel
theorem dL_raw_18 : decode cL_raw 18 = .ok (.astore 5, 2) := by decide +kernel
theorem dL_raw_20 : decode cL_raw 20 = .ok (.iconst 2, 1) := by decide +kernel
theorem dL_raw_21 : decode cL_raw 21 = .ok (.ireturn, 1) := by decide +kernel
theorem dL_raw_22 : decode cL_raw 22 = .ok (.astore 5, 2) := by decide +kernel
theorem dL_raw_24 : decode cL_raw 24 = .ok (.iconst 3, 1) := by decide +kernel
theorem dL_raw_25 : decode cL_raw 25 = .ok (.ireturn, 1) := by decide +kernel
theorem dL_raw_26 : decode cL_raw 26 = .ok (.iconst 0, 1) := by decide +kernel
theorem dL_raw_27 : decode cL_raw 27 = .ok (.ireturn, 1) := by decide +kernel
theorem dL_told_0 : decode cL_told 0 = .ok (.aload 4, 2) := by decide +kernel
theorem dL_told_2 : decode cL_told 2 = .ok (.iconst 0, 1) := by decide +kernel
theorem dL_told_3 : decode cL_told 3 = .ok (.aload_n 0, 1) := by decide +kernel
theorem dL_told_4 : decode cL_told 4 = .ok (.iload_n 1, 1) := by decide +kernel
theorem dL_told_5 : decode cL_told 5 = .ok (.iload_n 2, 1) := by decide +kernel
theorem dL_told_6 : decode cL_told 6 = .ok (.iload_n 3, 1) := by decide +kernel
theorem dL_told_7 : decode cL_told 7 = .ok (.invokevirtual 49, 3) := by decide +kernel
theorem dL_told_10 : decode cL_told 10 = .ok (.lastore, 1) := by decide +kernel
theorem dL_told_11 : decode cL_told 11 = .ok (.goto 15, 3) := by decide +kernel
theorem dL_told_14 : decode cL_told 14 = .ok (.astore 5, 2) := by decide +kernel
theorem dL_told_16 : decode cL_told 16 = .ok (.iconst 1, 1) := by decide +kernel
theorem dL_told_17 : decode cL_told 17 = .ok (.ireturn, 1) := by decide +kernel
theorem dL_told_18 : decode cL_told 18 = .ok (.astore 5, 2) := by decide +kernel
theorem dL_told_20 : decode cL_told 20 = .ok (.iconst 2, 1) := by decide +kernel
theorem dL_told_21 : decode cL_told 21 = .ok (.ireturn, 1) := by decide +kernel
theorem dL_told_22 : decode cL_told 22 = .ok (.astore 5, 2) := by decide +kernel
theorem dL_told_24 : decode cL_told 24 = .ok (.iconst 3, 1) := by decide +kernel
theorem dL_told_25 : decode cL_told 25 = .ok (.ireturn, 1) := by decide +kernel
theorem dL_told_26 : decode cL_told 26 = .ok (.iconst 0, 1) := by decide +kernel
theorem dL_told_27 : decode cL_told 27 = .ok (.ireturn, 1) := by decide +kernel
theorem dL_instead_0 : decode cL_instead 0 = .ok (.aload 6, 2) := by decide +kernel
theorem dL_instead_2 : decode cL_instead 2 = .ok (.iconst 0, 1) := by decide +kernel
theorem dL_instead_3 : decode cL_instead 3 = .ok (.aload_n 0, 1) := by decide +kernel
theorem dL_instead_4 : decode cL_instead 4 = .ok (.iload_n 1, 1) := by decide +kernel
theorem dL_instead_5 : decode cL_instead 5 = .ok (.iload_n 2, 1) := by decide +kernel
theorem dL_instead_6 : decode cL_instead 6 = .ok (.iload_n 3, 1) := by decide +kernel
theorem dL_instead_7 : decode cL_instead 7 = .ok (.iload 4, 2) := by decide +kernel
theorem dL_instead_9 : decode cL_instead 9 = .ok (.iload 5, 2) := by decide +kernel
theorem dL_instead_11 : decode cL_instead 11 = .ok (.invokevirtual 52, 3) := by decide +kernel
theorem dL_instead_14 : decode cL_instead 14 = .ok (.lastore, 1) := by decide +kernel
theorem dL_instead_15 : decode cL_instead 15 = .ok (.goto 15, 3) := by decide +kernel
theorem dL_instead_18 : decode cL_instead 18 = .ok (.astore 7, 2) := by decide +kernel
theorem dL_instead_20 : decode cL_instead 20 = .ok (.iconst 1, 1) := by decide +kernel
theorem dL_instead_21 : decode cL_instead 21 = .ok (.ireturn, 1) := by decide +kernel
theorem dL_instead_22 : decode cL_instead 22 = .ok (.astore 7, 2) := by decide +kernel
theorem dL_instead_24 : decode cL_instead 24 = .ok (.iconst 2, 1) := by decide +kernel
theorem dL_instead_25 : decode cL_instead 25 = .ok (.ireturn, 1) := by decide +kernel
theorem dL_instead_26 : decode cL_instead 26 = .ok (.astore 7, 2) := by decide +kernel
theorem dL_instead_28 : decode cL_instead 28 = .ok (.iconst 3, 1) := by decide +kernel
theorem dL_instead_29 : decode cL_instead 29 = .ok (.ireturn, 1) := by decide +kernel
theorem dL_instead_30 : decode cL_instead 30 = .ok (.iconst 0, 1) := by decide +kernel
theorem dL_instead_31 : decode cL_instead 31 = .ok (.ireturn, 1) := by decide +kernel
theorem dL_place_0 : decode cL_place 0 = .ok (.aload_n 3, 1) := by decide +kernel
theorem dL_place_1 : decode cL_place 1 = .ok (.iconst 0, 1) := by decide +kernel
theorem dL_place_2 : decode cL_place 2 = .ok (.aload_n 0, 1) := by decide +kernel
theorem dL_place_3 : decode cL_place 3 = .ok (.iload_n 1, 1) := by decide +kernel
theorem dL_place_4 : decode cL_place 4 = .ok (.iload_n 2, 1) := by decide +kernel
theorem dL_place_5 : decode cL_place 5 = .ok (.invokevirtual 56, 3) := by decide +kernel
theorem dL_place_8 : decode cL_place 8 = .ok (.i2l, 1) := by decide +kernel
theorem dL_place_9 : decode cL_place 9 = .ok (.lastore, 1) := by decide +kernel
theorem dL_place_10 : decode cL_place 10 = .ok (.goto 11, 3) := by decide +kernel
theorem dL_place_13 : decode cL_place 13 = .ok (.astore 4, 2) := by decide +kernel
theorem dL_place_15 : decode cL_place 15 = .ok (.iconst 1, 1) := by decide +kernel
theorem dL_place_16 : decode cL_place 16 = .ok (.ireturn, 1) := by decide +kernel
theorem dL_place_17 : decode cL_place 17 = .ok (.astore 4, 2) := by decide +kernel
theorem dL_place_19 : decode cL_place 19 = .ok (.iconst 2, 1) := by decide +kernel
theorem dL_place_20 : decode cL_place 20 = .ok (.ireturn, 1) := by decide +kernel
theorem dL_place_21 : decode cL_place 21 = .ok (.iconst 0, 1) := by decide +kernel
theorem dL_place_22 : decode cL_place 22 = .ok (.ireturn, 1) := by decide +kernel
theorem dL_compare_0 : decode cL_compare 0 = .ok (.aload 4, 2) := by decide +kernel
theorem dL_compare_2 : decode cL_compare 2 = .ok (.iconst 0, 1) := by decide +kernel
theorem dL_compare_3 : decode cL_compare 3 = .ok (.aload_n 0, 1) := by decide +kernel
theorem dL_compare_4 : decode cL_compare 4 = .ok (.iload_n 1, 1) := by decide +kernel
theorem dL_compare_5 : decode cL_compare 5 = .ok (.iload_n 2, 1) := by decide +kernel
theorem dL_compare_6 : decode cL_compare 6 = .ok (.iload_n 3, 1) := by decide +kernel
theorem dL_compare_7 : decode cL_compare 7 = .ok (.invokevirtual 59, 3) := by decide +kernel
theorem dL_compare_10 : decode cL_compare 10 = .ok (.i2l, 1) := by decide +kernel
theorem dL_compare_11 : decode cL_compare 11 = .ok (.lastore, 1) := by decide +kernel
theorem dL_compare_12 : decode cL_compare 12 = .ok (.goto 11, 3) := by decide +kernel
theorem dL_compare_15 : decode cL_compare 15 = .ok (.astore 5, 2) := by decide +kernel
theorem dL_compare_17 : decode cL_compare 17 = .ok (.iconst 1, 1) := by decide +kernel
theorem dL_compare_18 : decode cL_compare 18 = .ok (.ireturn, 1) := by decide +kernel
theorem dL_compare_19 : decode cL_compare 19 = .ok (.astore 5, 2) := by decide +kernel
theorem dL_compare_21 : decode cL_compare 21 = .ok (.iconst 2, 1) := by decide +kernel
theorem dL_compare_22 : decode cL_compare 22 = .ok (.ireturn, 1) := by decide +kernel
theorem dL_compare_23 : decode cL_compare 23 = .ok (.iconst 0, 1) := by decide +kernel
theorem dL_compare_24 : decode cL_compare 24 = .ok (.ireturn, 1) := by decide +kernel
theorem dL_decided_0 : decode cL_decided 0 = .ok (.aload_n 3, 1) := by decide +kernel
theorem dL_decided_1 : decode cL_decided 1 = .ok (.iconst 0, 1) := by decide +kernel
theorem dL_decided_2 : decode cL_decided 2 = .ok (.aload_n 0, 1) := by decide +kernel
theorem dL_decided_3 : decode cL_decided 3 = .ok (.iload_n 1, 1) := by decide +kernel
theorem dL_decided_4 : decode cL_decided 4 = .ok (.iload_n 2, 1) := by decide +kernel
theorem dL_decided_5 : decode cL_decided 5 = .ok (.invokevirtual 63, 3) := by decide +kernel
theorem dL_decided_8 : decode cL_decided 8 = .ok (.i2l, 1) := by decide +kernel
theorem dL_decided_9 : decode cL_decided 9 = .ok (.lastore, 1) := by decide +kernel
theorem dL_decided_10 : decode cL_decided 10 = .ok (.goto 7, 3) := by decide +kernel
theorem dL_decided_13 : decode cL_decided 13 = .ok (.astore 4, 2) := by decide +kernel
theorem dL_decided_15 : decode cL_decided 15 = .ok (.iconst 1, 1) := by decide +kernel
theorem dL_decided_16 : decode cL_decided 16 = .ok (.ireturn, 1) := by decide +kernel
theorem dL_decided_17 : decode cL_decided 17 = .ok (.iconst 0, 1) := by decide +kernel
theorem dL_decided_18 : decode cL_decided 18 = .ok (.ireturn, 1) := by decide +kernel
theorem dL_decimals_0 : decode cL_decimals 0 = .ok (.aload_n 3, 1) := by decide +kernel
theorem dL_decimals_1 : decode cL_decimals 1 = .ok (.iconst 0, 1) := by decide +kernel
theorem dL_decimals_2 : decode cL_decimals 2 = .ok (.aload_n 0, 1) := by decide +kernel
theorem dL_decimals_3 : decode cL_decimals 3 = .ok (.iload_n 1, 1) := by decide +kernel
theorem dL_decimals_4 : decode cL_decimals 4 = .ok (.iload_n 2, 1) := by decide +kernel
theorem dL_decimals_5 : decode cL_decimals 5 = .ok (.invokevirtual 66, 3) := by decide +kernel
theorem dL_decimals_8 : decode cL_decimals 8 = .ok (.i2l, 1) := by decide +kernel
theorem dL_decimals_9 : decode cL_decimals 9 = .ok (.lastore, 1) := by decide +kernel
theorem dL_decimals_10 : decode cL_decimals 10 = .ok (.goto 11, 3) := by decide +kernel
theorem dL_decimals_13 : decode cL_decimals 13 = .ok (.astore 4, 2) := by decide +kernel
theorem dL_decimals_15 : decode cL_decimals 15 = .ok (.iconst 1, 1) := by decide +kernel
theorem dL_decimals_16 : decode cL_decimals 16 = .ok (.ireturn, 1) := by decide +kernel
theorem dL_decimals_17 : decode cL_decimals 17 = .ok (.astore 4, 2) := by decide +kernel
theorem dL_decimals_19 : decode cL_decimals 19 = .ok (.iconst 2, 1) := by decide +kernel
theorem dL_decimals_20 : decode cL_decimals 20 = .ok (.ireturn, 1) := by decide +kernel
theorem dL_decimals_21 : decode cL_decimals 21 = .ok (.iconst 0, 1) := by decide +kernel
theorem dL_decimals_22 : decode cL_decimals 22 = .ok (.ireturn, 1) := by decide +kernel
theorem dL_decimal_0 : decode cL_decimal 0 = .ok (.aload 4, 2) := by decide +kernel
theorem dL_decimal_2 : decode cL_decimal 2 = .ok (.iconst 0, 1) := by decide +kernel
theorem dL_decimal_3 : decode cL_decimal 3 = .ok (.aload_n 0, 1) := by decide +kernel
theorem dL_decimal_4 : decode cL_decimal 4 = .ok (.iload_n 1, 1) := by decide +kernel
theorem dL_decimal_5 : decode cL_decimal 5 = .ok (.iload_n 2, 1) := by decide +kernel
theorem dL_decimal_6 : decode cL_decimal 6 = .ok (.iload_n 3, 1) := by decide +kernel
theorem dL_decimal_7 : decode cL_decimal 7 = .ok (.invokevirtual 69, 3) := by decide +kernel
theorem dL_decimal_10 : decode cL_decimal 10 = .ok (.i2l, 1) := by decide +kernel
theorem dL_decimal_11 : decode cL_decimal 11 = .ok (.lastore, 1) := by decide +kernel
theorem dL_decimal_12 : decode cL_decimal 12 = .ok (.goto 15, 3) := by decide +kernel
theorem dL_decimal_15 : decode cL_decimal 15 = .ok (.astore 5, 2) := by decide +kernel
theorem dL_decimal_17 : decode cL_decimal 17 = .ok (.iconst 1, 1) := by decide +kernel
theorem dL_decimal_18 : decode cL_decimal 18 = .ok (.ireturn, 1) := by decide +kernel
theorem dL_decimal_19 : decode cL_decimal 19 = .ok (.astore 5, 2) := by decide +kernel
theorem dL_decimal_21 : decode cL_decimal 21 = .ok (.iconst 2, 1) := by decide +kernel
theorem dL_decimal_22 : decode cL_decimal 22 = .ok (.ireturn, 1) := by decide +kernel
theorem dL_decimal_23 : decode cL_decimal 23 = .ok (.astore 5, 2) := by decide +kernel
theorem dL_decimal_25 : decode cL_decimal 25 = .ok (.iconst 3, 1) := by decide +kernel
theorem dL_decimal_26 : decode cL_decimal 26 = .ok (.ireturn, 1) := by decide +kernel
theorem dL_decimal_27 : decode cL_decimal 27 = .ok (.iconst 0, 1) := by decide +kernel
theorem dL_decimal_28 : decode cL_decimal 28 = .ok (.ireturn, 1) := by decide +kernel
theorem dL_quotient_0 : decode cL_quotient 0 = .ok (.aload 4, 2) := by decide +kernel
theorem dL_quotient_2 : decode cL_quotient 2 = .ok (.iconst 0, 1) := by decide +kernel
theorem dL_quotient_3 : decode cL_quotient 3 = .ok (.aload_n 0, 1) := by decide +kernel
theorem dL_quotient_4 : decode cL_quotient 4 = .ok (.iload_n 1, 1) := by decide +kernel
theorem dL_quotient_5 : decode cL_quotient 5 = .ok (.iload_n 2, 1) := by decide +kernel
theorem dL_quotient_6 : decode cL_quotient 6 = .ok (.iload_n 3, 1) := by decide +kernel
theorem dL_quotient_7 : decode cL_quotient 7 = .ok (.invokevirtual 72, 3) := by decide +kernel
theorem dL_quotient_10 : decode cL_quotient 10 = .ok (.i2l, 1) := by decide +kernel
theorem dL_quotient_11 : decode cL_quotient 11 = .ok (.lastore, 1) := by decide +kernel
theorem dL_quotient_12 : decode cL_quotient 12 = .ok (.goto 15, 3) := by decide +kernel
theorem dL_quotient_15 : decode cL_quotient 15 = .ok (.astore 5, 2) := by decide +kernel
theorem dL_quotient_17 : decode cL_quotient 17 = .ok (.iconst 1, 1) := by decide +kernel
theorem dL_quotient_18 : decode cL_quotient 18 = .ok (.ireturn, 1) := by decide +kernel
theorem dL_quotient_19 : decode cL_quotient 19 = .ok (.astore 5, 2) := by decide +kernel
theorem dL_quotient_21 : decode cL_quotient 21 = .ok (.iconst 2, 1) := by decide +kernel
theorem dL_quotient_22 : decode cL_quotient 22 = .ok (.ireturn, 1) := by decide +kernel
theorem dL_quotient_23 : decode cL_quotient 23 = .ok (.astore 5, 2) := by decide +kernel
theorem dL_quotient_25 : decode cL_quotient 25 = .ok (.iconst 3, 1) := by decide +kernel
theorem dL_quotient_26 : decode cL_quotient 26 = .ok (.ireturn, 1) := by decide +kernel
theorem dL_quotient_27 : decode cL_quotient 27 = .ok (.iconst 0, 1) := by decide +kernel
theorem dL_quotient_28 : decode cL_quotient 28 = .ok (.ireturn, 1) := by decide +kernel
theorem dL_next_0 : decode cL_next 0 = .ok (.aload_n 2, 1) := by decide +kernel
theorem dL_next_1 : decode cL_next 1 = .ok (.iconst 0, 1) := by decide +kernel
theorem dL_next_2 : decode cL_next 2 = .ok (.aload_n 0, 1) := by decide +kernel
theorem dL_next_3 : decode cL_next 3 = .ok (.iload_n 1, 1) := by decide +kernel
theorem dL_next_4 : decode cL_next 4 = .ok (.invokevirtual 75, 3) := by decide +kernel
theorem dL_next_7 : decode cL_next 7 = .ok (.i2l, 1) := by decide +kernel
theorem dL_next_8 : decode cL_next 8 = .ok (.lastore, 1) := by decide +kernel
theorem dL_next_9 : decode cL_next 9 = .ok (.goto 9, 3) := by decide +kernel
theorem dL_next_12 : decode cL_next 12 = .ok (.astore_n 3, 1) := by decide +kernel
theorem dL_next_13 : decode cL_next 13 = .ok (.iconst 1, 1) := by decide +kernel
theorem dL_next_14 : decode cL_next 14 = .ok (.ireturn, 1) := by decide +kernel
theorem dL_next_15 : decode cL_next 15 = .ok (.astore_n 3, 1) := by decide +kernel
theorem dL_next_16 : decode cL_next 16 = .ok (.iconst 2, 1) := by decide +kernel
theorem dL_next_17 : decode cL_next 17 = .ok (.ireturn, 1) := by decide +kernel
theorem dL_next_18 : decode cL_next 18 = .ok (.iconst 0, 1) := by decide +kernel
theorem dL_next_19 : decode cL_next 19 = .ok (.ireturn, 1) := by decide +kernel
theorem dL_emitted_0 : decode cL_emitted 0 = .ok (.aload_n 2, 1) := by decide +kernel
theorem dL_emitted_1 : decode cL_emitted 1 = .ok (.iconst 0, 1) := by decide +kernel
theorem dL_emitted_2 : decode cL_emitted 2 = .ok (.aload_n 0, 1) := by decide +kernel
theorem dL_emitted_3 : decode cL_emitted 3 = .ok (.iload_n 1, 1) := by decide +kernel
theorem dL_emitted_4 : decode cL_emitted 4 = .ok (.invokevirtual 78, 3) := by decide +kernel
theorem dL_emitted_7 : decode cL_emitted 7 = .ok (.i2l, 1) := by decide +kernel
theorem dL_emitted_8 : decode cL_emitted 8 = .ok (.lastore, 1) := by decide +kernel
theorem dL_emitted_9 : decode cL_emitted 9 = .ok (.goto 6, 3) := by decide +kernel
theorem dL_emitted_12 : decode cL_emitted 12 = .ok (.astore_n 3, 1) := by decide +kernel
theorem dL_emitted_13 : decode cL_emitted 13 = .ok (.iconst 1, 1) := by decide +kernel
theorem dL_emitted_14 : decode cL_emitted 14 = .ok (.ireturn, 1) := by decide +kernel
theorem dL_emitted_15 : decode cL_emitted 15 = .ok (.iconst 0, 1) := by decide +kernel
theorem dL_emitted_16 : decode cL_emitted 16 = .ok (.ireturn, 1) := by decide +kernel
theorem dL_partial_0 : decode cL_partial 0 = .ok (.aload_n 2, 1) := by decide +kernel
theorem dL_partial_1 : decode cL_partial 1 = .ok (.iconst 0, 1) := by decide +kernel
theorem dL_partial_2 : decode cL_partial 2 = .ok (.aload_n 0, 1) := by decide +kernel
theorem dL_partial_3 : decode cL_partial 3 = .ok (.iload_n 1, 1) := by decide +kernel
theorem dL_partial_4 : decode cL_partial 4 = .ok (.invokevirtual 81, 3) := by decide +kernel
theorem dL_partial_7 : decode cL_partial 7 = .ok (.lastore, 1) := by decide +kernel
theorem dL_partial_8 : decode cL_partial 8 = .ok (.goto 6, 3) := by decide +kernel
theorem dL_partial_11 : decode cL_partial 11 = .ok (.astore_n 3, 1) := by decide +kernel
theorem dL_partial_12 : decode cL_partial 12 = .ok (.iconst 1, 1) := by decide +kernel
theorem dL_partial_13 : decode cL_partial 13 = .ok (.ireturn, 1) := by decide +kernel
theorem dL_partial_14 : decode cL_partial 14 = .ok (.iconst 0, 1) := by decide +kernel
theorem dL_partial_15 : decode cL_partial 15 = .ok (.ireturn, 1) := by decide +kernel
theorem dL_restart_0 : decode cL_restart 0 = .ok (.aload_n 2, 1) := by decide +kernel
theorem dL_restart_1 : decode cL_restart 1 = .ok (.iconst 0, 1) := by decide +kernel
theorem dL_restart_2 : decode cL_restart 2 = .ok (.aload_n 0, 1) := by decide +kernel
theorem dL_restart_3 : decode cL_restart 3 = .ok (.iload_n 1, 1) := by decide +kernel
theorem dL_restart_4 : decode cL_restart 4 = .ok (.invokevirtual 85, 3) := by decide +kernel
theorem dL_restart_7 : decode cL_restart 7 = .ok (.i2l, 1) := by decide +kernel
theorem dL_restart_8 : decode cL_restart 8 = .ok (.lastore, 1) := by decide +kernel
theorem dL_restart_9 : decode cL_restart 9 = .ok (.goto 6, 3) := by decide +kernel
theorem dL_restart_12 : decode cL_restart 12 = .ok (.astore_n 3, 1) := by decide +kernel
theorem dL_restart_13 : decode cL_restart 13 = .ok (.iconst 1, 1) := by decide +kernel
theorem dL_restart_14 : decode cL_restart 14 = .ok (.ireturn, 1) := by decide +kernel
theorem dL_restart_15 : decode cL_restart 15 = .ok (.iconst 0, 1) := by decide +kernel
theorem dL_restart_16 : decode cL_restart 16 = .ok (.ireturn, 1) := by decide +kernel
theorem dL_needs_0 : decode cL_needs 0 = .ok (.aload_n 2, 1) := by decide +kernel
theorem dL_needs_1 : decode cL_needs 1 = .ok (.iconst 0, 1) := by decide +kernel
theorem dL_needs_2 : decode cL_needs 2 = .ok (.aload_n 0, 1) := by decide +kernel
theorem dL_needs_3 : decode cL_needs 3 = .ok (.iload_n 1, 1) := by decide +kernel
theorem dL_needs_4 : decode cL_needs 4 = .ok (.invokevirtual 88, 3) := by decide +kernel
theorem dL_needs_7 : decode cL_needs 7 = .ok (.i2l, 1) := by decide +kernel
theorem dL_needs_8 : decode cL_needs 8 = .ok (.lastore, 1) := by decide +kernel
theorem dL_needs_9 : decode cL_needs 9 = .ok (.goto 6, 3) := by decide +kernel
theorem dL_needs_12 : decode cL_needs 12 = .ok (.astore_n 3, 1) := by decide +kernel
theorem dL_needs_13 : decode cL_needs 13 = .ok (.iconst 1, 1) := by decide +kernel
theorem dL_needs_14 : decode cL_needs 14 = .ok (.ireturn, 1) := by decide +kernel
theorem dL_needs_15 : decode cL_needs 15 = .ok (.iconst 0, 1) := by decide +kernel
theorem dL_needs_16 : decode cL_needs 16 = .ok (.ireturn, 1) := by decide +kernel
