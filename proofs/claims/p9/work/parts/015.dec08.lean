theorem dX11_nearest_4 : decode cX11_nearest 4 = .ok (.iload_n 2, 1) := by decide +kernel
theorem dX11_nearest_5 : decode cX11_nearest 5 = .ok (.invokevirtual 172, 3) := by decide +kernel
theorem dX11_nearest_8 : decode cX11_nearest 8 = .ok (.ifCond .eq 11, 3) := by decide +kernel
theorem dX11_nearest_19 : decode cX11_nearest 19 = .ok (.ldc 175, 2) := by decide +kernel
theorem dX11_nearest_21 : decode cX11_nearest 21 = .ok (.ireturn, 1) := by decide +kernel
theorem dX11_nearest_11 : decode cX11_nearest 11 = .ok (.aload_n 0, 1) := by decide +kernel
theorem dX11_nearest_12 : decode cX11_nearest 12 = .ok (.iload_n 1, 1) := by decide +kernel
theorem dX11_nearest_13 : decode cX11_nearest 13 = .ok (.invokevirtual 243, 3) := by decide +kernel
theorem dX11_isNear_0 : decode cX11_isNear 0 = .ok (.aload_n 0, 1) := by decide +kernel
theorem dX11_isNear_1 : decode cX11_isNear 1 = .ok (.getfield 24, 3) := by decide +kernel
theorem dX11_isNear_4 : decode cX11_isNear 4 = .ok (.aload_n 0, 1) := by decide +kernel
theorem dX11_isNear_5 : decode cX11_isNear 5 = .ok (.getfield 69, 3) := by decide +kernel
theorem dX11_isNear_8 : decode cX11_isNear 8 = .ok (.aload_n 0, 1) := by decide +kernel
theorem dX11_isNear_9 : decode cX11_isNear 9 = .ok (.getfield 49, 3) := by decide +kernel
theorem dX11_isNear_12 : decode cX11_isNear 12 = .ok (.invokevirtual 256, 3) := by decide +kernel
theorem dX11_isNear_15 : decode cX11_isNear 15 = .ok (.iload_n 1, 1) := by decide +kernel
theorem dX11_isNear_16 : decode cX11_isNear 16 = .ok (.ifCond .lt 18, 3) := by decide +kernel
theorem dX11_isNear_34 : decode cX11_isNear 34 = .ok (.iconst 0, 1) := by decide +kernel
theorem dX11_isNear_35 : decode cX11_isNear 35 = .ok (.ireturn, 1) := by decide +kernel
theorem dX11_isNear_19 : decode cX11_isNear 19 = .ok (.iload_n 1, 1) := by decide +kernel
theorem dX11_isNear_20 : decode cX11_isNear 20 = .ok (.aload_n 0, 1) := by decide +kernel
theorem dX11_isNear_21 : decode cX11_isNear 21 = .ok (.getfield 24, 3) := by decide +kernel
theorem dX11_isNear_24 : decode cX11_isNear 24 = .ok (.getfield 260, 3) := by decide +kernel
theorem dX11_isNear_27 : decode cX11_isNear 27 = .ok (.if_icmp .ge 7, 3) := by decide +kernel
theorem dX11_isNear_30 : decode cX11_isNear 30 = .ok (.iconst 1, 1) := by decide +kernel
theorem dX11_isNear_31 : decode cX11_isNear 31 = .ok (.goto 4, 3) := by decide +kernel
theorem dX11_nearest_16 : decode cX11_nearest 16 = .ok (.ifCond .ne 6, 3) := by decide +kernel
theorem dX11_nearest_22 : decode cX11_nearest 22 = .ok (.aload_n 0, 1) := by decide +kernel
theorem dX11_nearest_23 : decode cX11_nearest 23 = .ok (.getfield 69, 3) := by decide +kernel
theorem dX11_nearest_26 : decode cX11_nearest 26 = .ok (.aload_n 0, 1) := by decide +kernel
theorem dX11_nearest_27 : decode cX11_nearest 27 = .ok (.getfield 24, 3) := by decide +kernel
theorem dX11_nearest_30 : decode cX11_nearest 30 = .ok (.getfield 246, 3) := by decide +kernel
theorem dX11_nearest_33 : decode cX11_nearest 33 = .ok (.iload_n 1, 1) := by decide +kernel
theorem dX11_nearest_34 : decode cX11_nearest 34 = .ok (.iaload, 1) := by decide +kernel
theorem dX11_nearest_35 : decode cX11_nearest 35 = .ok (.iload_n 2, 1) := by decide +kernel
theorem dX11_nearest_36 : decode cX11_nearest 36 = .ok (.invokevirtual 249, 3) := by decide +kernel
theorem dX11_nearest_39 : decode cX11_nearest 39 = .ok (.ireturn, 1) := by decide +kernel
theorem dX11_near_0 : decode cX11_near 0 = .ok (.aload_n 0, 1) := by decide +kernel
theorem dX11_near_1 : decode cX11_near 1 = .ok (.iload_n 1, 1) := by decide +kernel
theorem dX11_near_2 : decode cX11_near 2 = .ok (.invokevirtual 243, 3) := by decide +kernel
theorem dX11_near_5 : decode cX11_near 5 = .ok (.ifCond .eq 15, 3) := by decide +kernel
theorem dX11_near_20 : decode cX11_near 20 = .ok (.ldc2_w 212, 3) := by decide +kernel
theorem dX11_near_23 : decode cX11_near 23 = .ok (.lreturn, 1) := by decide +kernel
theorem dX11_near_8 : decode cX11_near 8 = .ok (.aload_n 0, 1) := by decide +kernel
theorem dX11_near_9 : decode cX11_near 9 = .ok (.getfield 24, 3) := by decide +kernel
theorem dX11_near_12 : decode cX11_near 12 = .ok (.getfield 252, 3) := by decide +kernel
theorem dX11_near_15 : decode cX11_near 15 = .ok (.iload_n 1, 1) := by decide +kernel
theorem dX11_near_16 : decode cX11_near 16 = .ok (.laload, 1) := by decide +kernel
theorem dX11_near_17 : decode cX11_near 17 = .ok (.goto 6, 3) := by decide +kernel
theorem dX11_within_0 : decode cX11_within 0 = .ok (.lload_n 1, 1) := by decide +kernel
theorem dX11_within_1 : decode cX11_within 1 = .ok (.lconst 0, 1) := by decide +kernel
theorem dX11_within_2 : decode cX11_within 2 = .ok (.lcmp, 1) := by decide +kernel
theorem dX11_within_3 : decode cX11_within 3 = .ok (.ifCond .ge 7, 3) := by decide +kernel
theorem dX11_within_10 : decode cX11_within 10 = .ok (.aload_n 0, 1) := by decide +kernel
theorem dX11_within_11 : decode cX11_within 11 = .ok (.getfield 24, 3) := by decide +kernel
theorem dX11_within_14 : decode cX11_within 14 = .ok (.aload_n 0, 1) := by decide +kernel
theorem dX11_within_15 : decode cX11_within 15 = .ok (.getfield 69, 3) := by decide +kernel
theorem dX11_within_18 : decode cX11_within 18 = .ok (.aload_n 0, 1) := by decide +kernel
theorem dX11_within_19 : decode cX11_within 19 = .ok (.getfield 49, 3) := by decide +kernel
theorem dX11_within_22 : decode cX11_within 22 = .ok (.lload_n 1, 1) := by decide +kernel
theorem dX11_within_23 : decode cX11_within 23 = .ok (.aload_n 0, 1) := by decide +kernel
theorem dX11_within_24 : decode cX11_within 24 = .ok (.getfield 69, 3) := by decide +kernel
theorem dX11_within_27 : decode cX11_within 27 = .ok (.invokevirtual 263, 3) := by decide +kernel
theorem dX11_within_30 : decode cX11_within 30 = .ok (.invokevirtual 266, 3) := by decide +kernel
theorem dX11_within_33 : decode cX11_within 33 = .ok (.ireturn, 1) := by decide +kernel
theorem dX11_within_6 : decode cX11_within 6 = .ok (.iconst (-1), 1) := by decide +kernel
theorem dX11_within_7 : decode cX11_within 7 = .ok (.goto 26, 3) := by decide +kernel
theorem dX11_cancel_0 : decode cX11_cancel 0 = .ok (.aload_n 0, 1) := by decide +kernel
theorem dX11_cancel_1 : decode cX11_cancel 1 = .ok (.getfield 69, 3) := by decide +kernel
theorem dX11_cancel_4 : decode cX11_cancel 4 = .ok (.iload_n 1, 1) := by decide +kernel
theorem dX11_cancel_5 : decode cX11_cancel 5 = .ok (.invokevirtual 172, 3) := by decide +kernel
theorem dX11_cancel_8 : decode cX11_cancel 8 = .ok (.ifCond .ne 6, 3) := by decide +kernel
theorem dX11_cancel_14 : decode cX11_cancel 14 = .ok (.aload_n 0, 1) := by decide +kernel
theorem dX11_cancel_15 : decode cX11_cancel 15 = .ok (.getfield 24, 3) := by decide +kernel
theorem dX11_cancel_18 : decode cX11_cancel 18 = .ok (.aload_n 0, 1) := by decide +kernel
theorem dX11_cancel_19 : decode cX11_cancel 19 = .ok (.getfield 69, 3) := by decide +kernel
theorem dX11_cancel_22 : decode cX11_cancel 22 = .ok (.aload_n 0, 1) := by decide +kernel
theorem dX11_cancel_23 : decode cX11_cancel 23 = .ok (.getfield 49, 3) := by decide +kernel
theorem dX11_cancel_26 : decode cX11_cancel 26 = .ok (.invokevirtual 270, 3) := by decide +kernel
theorem dX11_cancel_29 : decode cX11_cancel 29 = .ok (.aload_n 0, 1) := by decide +kernel
theorem dX11_cancel_30 : decode cX11_cancel 30 = .ok (.getfield 24, 3) := by decide +kernel
theorem dX11_cancel_33 : decode cX11_cancel 33 = .ok (.getfield 273, 3) := by decide +kernel
theorem dX11_cancel_36 : decode cX11_cancel 36 = .ok (.iload_n 1, 1) := by decide +kernel
theorem dX11_cancel_37 : decode cX11_cancel 37 = .ok (.iaload, 1) := by decide +kernel
theorem dX11_cancel_38 : decode cX11_cancel 38 = .ok (.ireturn, 1) := by decide +kernel
theorem dX11_cancel_11 : decode cX11_cancel 11 = .ok (.ldc 175, 2) := by decide +kernel
theorem dX11_cancel_13 : decode cX11_cancel 13 = .ok (.ireturn, 1) := by decide +kernel
theorem dX11_order_0 : decode cX11_order 0 = .ok (.aload_n 0, 1) := by decide +kernel
theorem dX11_order_1 : decode cX11_order 1 = .ok (.getfield 69, 3) := by decide +kernel
theorem dX11_order_4 : decode cX11_order 4 = .ok (.iload_n 1, 1) := by decide +kernel
theorem dX11_order_5 : decode cX11_order 5 = .ok (.invokevirtual 172, 3) := by decide +kernel
theorem dX11_order_8 : decode cX11_order 8 = .ok (.ifCond .ne 5, 3) := by decide +kernel
theorem dX11_order_13 : decode cX11_order 13 = .ok (.aload_n 0, 1) := by decide +kernel
theorem dX11_order_14 : decode cX11_order 14 = .ok (.getfield 24, 3) := by decide +kernel
theorem dX11_order_17 : decode cX11_order 17 = .ok (.aload_n 0, 1) := by decide +kernel
theorem dX11_order_18 : decode cX11_order 18 = .ok (.getfield 69, 3) := by decide +kernel
theorem dX11_order_21 : decode cX11_order 21 = .ok (.aload_n 0, 1) := by decide +kernel
theorem dX11_order_22 : decode cX11_order 22 = .ok (.getfield 49, 3) := by decide +kernel
theorem dX11_order_25 : decode cX11_order 25 = .ok (.invokevirtual 270, 3) := by decide +kernel
theorem dX11_order_28 : decode cX11_order 28 = .ok (.aload_n 0, 1) := by decide +kernel
theorem dX11_order_29 : decode cX11_order 29 = .ok (.getfield 24, 3) := by decide +kernel
theorem dX11_order_32 : decode cX11_order 32 = .ok (.getfield 276, 3) := by decide +kernel
theorem dX11_order_35 : decode cX11_order 35 = .ok (.iload_n 1, 1) := by decide +kernel
theorem dX11_order_36 : decode cX11_order 36 = .ok (.iaload, 1) := by decide +kernel
theorem dX11_order_37 : decode cX11_order 37 = .ok (.ireturn, 1) := by decide +kernel
theorem dX11_order_11 : decode cX11_order 11 = .ok (.iconst (-1), 1) := by decide +kernel
theorem dX11_order_12 : decode cX11_order 12 = .ok (.ireturn, 1) := by decide +kernel
theorem dX11_left_0 : decode cX11_left 0 = .ok (.aload_n 0, 1) := by decide +kernel
theorem dX11_left_1 : decode cX11_left 1 = .ok (.getfield 69, 3) := by decide +kernel
theorem dX11_left_4 : decode cX11_left 4 = .ok (.getfield 136, 3) := by decide +kernel
theorem dX11_left_7 : decode cX11_left 7 = .ok (.ifCond .ne 7, 3) := by decide +kernel
theorem dX11_left_14 : decode cX11_left 14 = .ok (.aload_n 0, 1) := by decide +kernel
theorem dX11_left_15 : decode cX11_left 15 = .ok (.getfield 24, 3) := by decide +kernel
theorem dX11_left_18 : decode cX11_left 18 = .ok (.aload_n 0, 1) := by decide +kernel
theorem dX11_left_19 : decode cX11_left 19 = .ok (.getfield 69, 3) := by decide +kernel
theorem dX11_left_22 : decode cX11_left 22 = .ok (.aload_n 0, 1) := by decide +kernel
theorem dX11_left_23 : decode cX11_left 23 = .ok (.getfield 49, 3) := by decide +kernel
theorem dX11_left_26 : decode cX11_left 26 = .ok (.invokevirtual 270, 3) := by decide +kernel
theorem dX11_left_29 : decode cX11_left 29 = .ok (.aload_n 0, 1) := by decide +kernel
theorem dX11_left_30 : decode cX11_left 30 = .ok (.getfield 69, 3) := by decide +kernel
theorem dX11_left_33 : decode cX11_left 33 = .ok (.aload_n 0, 1) := by decide +kernel
theorem dX11_left_34 : decode cX11_left 34 = .ok (.getfield 24, 3) := by decide +kernel
theorem dX11_left_37 : decode cX11_left 37 = .ok (.getfield 273, 3) := by decide +kernel
theorem dX11_left_40 : decode cX11_left 40 = .ok (.aload_n 0, 1) := by decide +kernel
theorem dX11_left_41 : decode cX11_left 41 = .ok (.getfield 49, 3) := by decide +kernel
theorem dX11_left_44 : decode cX11_left 44 = .ok (.invokevirtual 208, 3) := by decide +kernel
theorem dX11_left_47 : decode cX11_left 47 = .ok (.lreturn, 1) := by decide +kernel
theorem dX11_left_10 : decode cX11_left 10 = .ok (.ldc2_w 212, 3) := by decide +kernel
theorem dX11_left_13 : decode cX11_left 13 = .ok (.lreturn, 1) := by decide +kernel
theorem dX11_least_0 : decode cX11_least 0 = .ok (.aload_n 0, 1) := by decide +kernel
theorem dX11_least_1 : decode cX11_least 1 = .ok (.getfield 69, 3) := by decide +kernel
theorem dX11_least_4 : decode cX11_least 4 = .ok (.iload_n 1, 1) := by decide +kernel
theorem dX11_least_5 : decode cX11_least 5 = .ok (.invokevirtual 172, 3) := by decide +kernel
theorem dX11_least_8 : decode cX11_least 8 = .ok (.ifCond .eq 14, 3) := by decide +kernel
theorem dX11_least_22 : decode cX11_least 22 = .ok (.ldc2_w 212, 3) := by decide +kernel
theorem dX11_least_25 : decode cX11_least 25 = .ok (.lreturn, 1) := by decide +kernel
theorem dX11_least_11 : decode cX11_least 11 = .ok (.aload_n 0, 1) := by decide +kernel
theorem dX11_least_12 : decode cX11_least 12 = .ok (.getfield 69, 3) := by decide +kernel
theorem dX11_least_15 : decode cX11_least 15 = .ok (.iload_n 2, 1) := by decide +kernel
theorem dX11_least_16 : decode cX11_least 16 = .ok (.invokevirtual 217, 3) := by decide +kernel
theorem dX11_least_19 : decode cX11_least 19 = .ok (.ifCond .ne 7, 3) := by decide +kernel
theorem dX11_least_26 : decode cX11_least 26 = .ok (.aload_n 0, 1) := by decide +kernel
theorem dX11_least_27 : decode cX11_least 27 = .ok (.getfield 24, 3) := by decide +kernel
theorem dX11_least_30 : decode cX11_least 30 = .ok (.aload_n 0, 1) := by decide +kernel
theorem dX11_least_31 : decode cX11_least 31 = .ok (.getfield 69, 3) := by decide +kernel
theorem dX11_least_34 : decode cX11_least 34 = .ok (.aload_n 0, 1) := by decide +kernel
theorem dX11_least_35 : decode cX11_least 35 = .ok (.getfield 49, 3) := by decide +kernel
theorem dX11_least_38 : decode cX11_least 38 = .ok (.invokevirtual 256, 3) := by decide +kernel
theorem dX11_least_41 : decode cX11_least 41 = .ok (.aload_n 0, 1) := by decide +kernel
theorem dX11_least_42 : decode cX11_least 42 = .ok (.getfield 24, 3) := by decide +kernel
theorem dX11_least_45 : decode cX11_least 45 = .ok (.iload_n 1, 1) := by decide +kernel
theorem dX11_least_46 : decode cX11_least 46 = .ok (.aload_n 0, 1) := by decide +kernel
theorem dX11_least_47 : decode cX11_least 47 = .ok (.getfield 69, 3) := by decide +kernel
theorem dX11_least_50 : decode cX11_least 50 = .ok (.iload_n 2, 1) := by decide +kernel
theorem dX11_least_51 : decode cX11_least 51 = .ok (.invokevirtual 279, 3) := by decide +kernel
theorem dX11_least_54 : decode cX11_least 54 = .ok (.invokevirtual 282, 3) := by decide +kernel
theorem dX11_least_57 : decode cX11_least 57 = .ok (.lreturn, 1) := by decide +kernel
theorem dX11_share_0 : decode cX11_share 0 = .ok (.aload_n 0, 1) := by decide +kernel
theorem dX11_share_1 : decode cX11_share 1 = .ok (.getfield 69, 3) := by decide +kernel
theorem dX11_share_4 : decode cX11_share 4 = .ok (.iload_n 1, 1) := by decide +kernel
theorem dX11_share_5 : decode cX11_share 5 = .ok (.invokevirtual 172, 3) := by decide +kernel
theorem dX11_share_8 : decode cX11_share 8 = .ok (.ifCond .eq 14, 3) := by decide +kernel
theorem dX11_share_22 : decode cX11_share 22 = .ok (.iconst (-1), 1) := by decide +kernel
theorem dX11_share_23 : decode cX11_share 23 = .ok (.ireturn, 1) := by decide +kernel
theorem dX11_share_11 : decode cX11_share 11 = .ok (.aload_n 0, 1) := by decide +kernel
theorem dX11_share_12 : decode cX11_share 12 = .ok (.getfield 69, 3) := by decide +kernel
theorem dX11_share_15 : decode cX11_share 15 = .ok (.iload_n 2, 1) := by decide +kernel
theorem dX11_share_16 : decode cX11_share 16 = .ok (.invokevirtual 217, 3) := by decide +kernel
theorem dX11_share_19 : decode cX11_share 19 = .ok (.ifCond .ne 5, 3) := by decide +kernel
theorem dX11_share_24 : decode cX11_share 24 = .ok (.aload_n 0, 1) := by decide +kernel
theorem dX11_share_25 : decode cX11_share 25 = .ok (.getfield 24, 3) := by decide +kernel
theorem dX11_share_28 : decode cX11_share 28 = .ok (.aload_n 0, 1) := by decide +kernel
theorem dX11_share_29 : decode cX11_share 29 = .ok (.getfield 69, 3) := by decide +kernel
theorem dX11_share_32 : decode cX11_share 32 = .ok (.aload_n 0, 1) := by decide +kernel
theorem dX11_share_33 : decode cX11_share 33 = .ok (.getfield 49, 3) := by decide +kernel
theorem dX11_share_36 : decode cX11_share 36 = .ok (.invokevirtual 256, 3) := by decide +kernel
theorem dX11_share_39 : decode cX11_share 39 = .ok (.aload_n 0, 1) := by decide +kernel
theorem dX11_share_40 : decode cX11_share 40 = .ok (.getfield 24, 3) := by decide +kernel
theorem dX11_share_43 : decode cX11_share 43 = .ok (.iload_n 1, 1) := by decide +kernel
theorem dX11_share_44 : decode cX11_share 44 = .ok (.aload_n 0, 1) := by decide +kernel
theorem dX11_share_45 : decode cX11_share 45 = .ok (.getfield 69, 3) := by decide +kernel
theorem dX11_share_48 : decode cX11_share 48 = .ok (.iload_n 2, 1) := by decide +kernel
theorem dX11_share_49 : decode cX11_share 49 = .ok (.invokevirtual 279, 3) := by decide +kernel
theorem dX11_share_52 : decode cX11_share 52 = .ok (.invokevirtual 286, 3) := by decide +kernel
theorem dX11_share_55 : decode cX11_share 55 = .ok (.ireturn, 1) := by decide +kernel
theorem dX11_sure_0 : decode cX11_sure 0 = .ok (.aload_n 0, 1) := by decide +kernel
theorem dX11_sure_1 : decode cX11_sure 1 = .ok (.getfield 69, 3) := by decide +kernel
theorem dX11_sure_4 : decode cX11_sure 4 = .ok (.iload_n 1, 1) := by decide +kernel
theorem dX11_sure_5 : decode cX11_sure 5 = .ok (.invokevirtual 172, 3) := by decide +kernel
theorem dX11_sure_8 : decode cX11_sure 8 = .ok (.ifCond .eq 11, 3) := by decide +kernel
theorem dX11_sure_19 : decode cX11_sure 19 = .ok (.ldc2_w 212, 3) := by decide +kernel
theorem dX11_sure_22 : decode cX11_sure 22 = .ok (.lreturn, 1) := by decide +kernel
theorem dX11_sure_11 : decode cX11_sure 11 = .ok (.aload_n 0, 1) := by decide +kernel
theorem dX11_sure_12 : decode cX11_sure 12 = .ok (.iconst 0, 1) := by decide +kernel
theorem dX11_sure_13 : decode cX11_sure 13 = .ok (.invokevirtual 243, 3) := by decide +kernel
theorem dX11_sure_16 : decode cX11_sure 16 = .ok (.ifCond .ne 7, 3) := by decide +kernel
theorem dX11_sure_23 : decode cX11_sure 23 = .ok (.aload_n 0, 1) := by decide +kernel
theorem dX11_sure_24 : decode cX11_sure 24 = .ok (.getfield 69, 3) := by decide +kernel
theorem dX11_sure_27 : decode cX11_sure 27 = .ok (.aload_n 0, 1) := by decide +kernel
theorem dX11_sure_28 : decode cX11_sure 28 = .ok (.getfield 24, 3) := by decide +kernel
theorem dX11_sure_31 : decode cX11_sure 31 = .ok (.getfield 246, 3) := by decide +kernel
theorem dX11_sure_34 : decode cX11_sure 34 = .ok (.iconst 0, 1) := by decide +kernel
theorem dX11_sure_35 : decode cX11_sure 35 = .ok (.iaload, 1) := by decide +kernel
theorem dX11_sure_36 : decode cX11_sure 36 = .ok (.iload_n 1, 1) := by decide +kernel
theorem dX11_sure_37 : decode cX11_sure 37 = .ok (.invokevirtual 289, 3) := by decide +kernel
theorem dX11_sure_40 : decode cX11_sure 40 = .ok (.istore_n 2, 1) := by decide +kernel
theorem dX11_sure_41 : decode cX11_sure 41 = .ok (.aload_n 0, 1) := by decide +kernel
theorem dX11_sure_42 : decode cX11_sure 42 = .ok (.getfield 24, 3) := by decide +kernel
theorem dX11_sure_45 : decode cX11_sure 45 = .ok (.iload_n 1, 1) := by decide +kernel
theorem dX11_sure_46 : decode cX11_sure 46 = .ok (.iload_n 2, 1) := by decide +kernel
theorem dX11_sure_47 : decode cX11_sure 47 = .ok (.aload_n 0, 1) := by decide +kernel
theorem dX11_sure_48 : decode cX11_sure 48 = .ok (.getfield 69, 3) := by decide +kernel
theorem dX11_sure_51 : decode cX11_sure 51 = .ok (.getfield 133, 3) := by decide +kernel
theorem dX11_sure_54 : decode cX11_sure 54 = .ok (.invokevirtual 292, 3) := by decide +kernel
theorem dX11_sure_57 : decode cX11_sure 57 = .ok (.aload_n 0, 1) := by decide +kernel
theorem dX11_sure_58 : decode cX11_sure 58 = .ok (.getfield 24, 3) := by decide +kernel
theorem dX11_sure_61 : decode cX11_sure 61 = .ok (.getfield 252, 3) := by decide +kernel
theorem dX11_sure_64 : decode cX11_sure 64 = .ok (.iconst 0, 1) := by decide +kernel
theorem dX11_sure_65 : decode cX11_sure 65 = .ok (.laload, 1) := by decide +kernel
theorem dX11_sure_66 : decode cX11_sure 66 = .ok (.lsub, 1) := by decide +kernel
theorem dX11_sure_67 : decode cX11_sure 67 = .ok (.lreturn, 1) := by decide +kernel
theorem dX11_leader_0 : decode cX11_leader 0 = .ok (.aload_n 0, 1) := by decide +kernel
theorem dX11_leader_1 : decode cX11_leader 1 = .ok (.getfield 69, 3) := by decide +kernel
theorem dX11_leader_4 : decode cX11_leader 4 = .ok (.iload_n 1, 1) := by decide +kernel
theorem dX11_leader_5 : decode cX11_leader 5 = .ok (.invokevirtual 172, 3) := by decide +kernel
theorem dX11_leader_8 : decode cX11_leader 8 = .ok (.ifCond .eq 26, 3) := by decide +kernel
theorem dX11_leader_34 : decode cX11_leader 34 = .ok (.ldc2_w 308, 3) := by decide +kernel
theorem dX11_leader_37 : decode cX11_leader 37 = .ok (.lreturn, 1) := by decide +kernel
theorem dX11_leader_11 : decode cX11_leader 11 = .ok (.aload_n 0, 1) := by decide +kernel
theorem dX11_leader_12 : decode cX11_leader 12 = .ok (.getfield 69, 3) := by decide +kernel
theorem dX11_leader_15 : decode cX11_leader 15 = .ok (.iload_n 2, 1) := by decide +kernel
theorem dX11_leader_16 : decode cX11_leader 16 = .ok (.invokevirtual 172, 3) := by decide +kernel
theorem dX11_leader_19 : decode cX11_leader 19 = .ok (.ifCond .eq 15, 3) := by decide +kernel
theorem dX11_leader_22 : decode cX11_leader 22 = .ok (.aload_n 0, 1) := by decide +kernel
theorem dX11_leader_23 : decode cX11_leader 23 = .ok (.getfield 76, 3) := by decide +kernel
theorem dX11_leader_26 : decode cX11_leader 26 = .ok (.iload_n 1, 1) := by decide +kernel
theorem dX11_leader_27 : decode cX11_leader 27 = .ok (.iload_n 2, 1) := by decide +kernel
theorem dX11_leader_28 : decode cX11_leader 28 = .ok (.invokevirtual 305, 3) := by decide +kernel
theorem dX2_leaderAt_0 : decode cX2_leaderAt 0 = .ok (.aload_n 0, 1) := by decide +kernel
theorem dX2_leaderAt_1 : decode cX2_leaderAt 1 = .ok (.getfield 18, 3) := by decide +kernel
theorem dX2_leaderAt_4 : decode cX2_leaderAt 4 = .ok (.iload_n 2, 1) := by decide +kernel
theorem dX2_leaderAt_5 : decode cX2_leaderAt 5 = .ok (.iconst 5, 1) := by decide +kernel
theorem dX2_leaderAt_6 : decode cX2_leaderAt 6 = .ok (.imul, 1) := by decide +kernel
theorem dX2_leaderAt_7 : decode cX2_leaderAt 7 = .ok (.iload_n 1, 1) := by decide +kernel
theorem dX2_leaderAt_8 : decode cX2_leaderAt 8 = .ok (.iadd, 1) := by decide +kernel
theorem dX2_leaderAt_9 : decode cX2_leaderAt 9 = .ok (.laload, 1) := by decide +kernel
theorem dX2_leaderAt_10 : decode cX2_leaderAt 10 = .ok (.lreturn, 1) := by decide +kernel
theorem dX11_leader_31 : decode cX11_leader 31 = .ok (.goto 6, 3) := by decide +kernel
theorem dX11_step_0 : decode cX11_step 0 = .ok (.iload_n 1, 1) := by decide +kernel
theorem dX11_step_1 : decode cX11_step 1 = .ok (.ifCond .lt 23, 3) := by decide +kernel
theorem dX11_step_24 : decode cX11_step 24 = .ok (.ldc 175, 2) := by decide +kernel
theorem dX11_step_26 : decode cX11_step 26 = .ok (.ireturn, 1) := by decide +kernel
theorem dX11_step_4 : decode cX11_step 4 = .ok (.iload_n 1, 1) := by decide +kernel
theorem dX11_step_5 : decode cX11_step 5 = .ok (.aload_n 0, 1) := by decide +kernel
theorem dX11_step_6 : decode cX11_step 6 = .ok (.getfield 76, 3) := by decide +kernel
theorem dX11_step_9 : decode cX11_step 9 = .ok (.getfield 163, 3) := by decide +kernel
theorem dX11_step_12 : decode cX11_step 12 = .ok (.if_icmp .ge 12, 3) := by decide +kernel
theorem dX11_step_15 : decode cX11_step 15 = .ok (.iload_n 2, 1) := by decide +kernel
theorem dX11_step_16 : decode cX11_step 16 = .ok (.ifCond .lt 8, 3) := by decide +kernel
theorem dX11_step_19 : decode cX11_step 19 = .ok (.iload_n 2, 1) := by decide +kernel
theorem dX11_step_20 : decode cX11_step 20 = .ok (.iconst 2, 1) := by decide +kernel
theorem dX11_step_21 : decode cX11_step 21 = .ok (.if_icmp .le 6, 3) := by decide +kernel
theorem dX11_step_27 : decode cX11_step 27 = .ok (.aload_n 0, 1) := by decide +kernel
theorem dX11_step_28 : decode cX11_step 28 = .ok (.getfield 76, 3) := by decide +kernel
theorem dX11_step_31 : decode cX11_step 31 = .ok (.iload_n 1, 1) := by decide +kernel
theorem dX11_step_32 : decode cX11_step 32 = .ok (.iload_n 2, 1) := by decide +kernel
theorem dX11_step_33 : decode cX11_step 33 = .ok (.invokevirtual 310, 3) := by decide +kernel
theorem dX2_stepAt_0 : decode cX2_stepAt 0 = .ok (.aload_n 0, 1) := by decide +kernel
theorem dX2_stepAt_1 : decode cX2_stepAt 1 = .ok (.getfield 22, 3) := by decide +kernel
theorem dX2_stepAt_4 : decode cX2_stepAt 4 = .ok (.aload_n 0, 1) := by decide +kernel
theorem dX2_stepAt_5 : decode cX2_stepAt 5 = .ok (.iload_n 1, 1) := by decide +kernel
theorem dX2_stepAt_6 : decode cX2_stepAt 6 = .ok (.invokevirtual 56, 3) := by decide +kernel
theorem dX2_slot_0 : decode cX2_slot 0 = .ok (.aload_n 0, 1) := by decide +kernel
theorem dX2_slot_1 : decode cX2_slot 1 = .ok (.getfield 30, 3) := by decide +kernel
theorem dX2_slot_4 : decode cX2_slot 4 = .ok (.iload_n 1, 1) := by decide +kernel
theorem dX2_slot_5 : decode cX2_slot 5 = .ok (.iadd, 1) := by decide +kernel
theorem dX2_slot_6 : decode cX2_slot 6 = .ok (.bipush 40, 2) := by decide +kernel
theorem dX2_slot_8 : decode cX2_slot 8 = .ok (.irem, 1) := by decide +kernel
theorem dX2_slot_9 : decode cX2_slot 9 = .ok (.iconst 3, 1) := by decide +kernel
theorem dX2_slot_10 : decode cX2_slot 10 = .ok (.imul, 1) := by decide +kernel
theorem dX2_slot_11 : decode cX2_slot 11 = .ok (.ireturn, 1) := by decide +kernel
theorem dX2_stepAt_9 : decode cX2_stepAt 9 = .ok (.iload_n 2, 1) := by decide +kernel
theorem dX2_stepAt_10 : decode cX2_stepAt 10 = .ok (.iadd, 1) := by decide +kernel
theorem dX2_stepAt_11 : decode cX2_stepAt 11 = .ok (.iaload, 1) := by decide +kernel
theorem dX2_stepAt_12 : decode cX2_stepAt 12 = .ok (.ireturn, 1) := by decide +kernel
theorem dX11_step_36 : decode cX11_step 36 = .ok (.ireturn, 1) := by decide +kernel
theorem dX11_clash_0 : decode cX11_clash 0 = .ok (.aload_n 0, 1) := by decide +kernel
theorem dX11_clash_1 : decode cX11_clash 1 = .ok (.getfield 69, 3) := by decide +kernel
theorem dX11_clash_4 : decode cX11_clash 4 = .ok (.iload_n 1, 1) := by decide +kernel
theorem dX11_clash_5 : decode cX11_clash 5 = .ok (.invokevirtual 172, 3) := by decide +kernel
theorem dX11_clash_8 : decode cX11_clash 8 = .ok (.ifCond .eq 19, 3) := by decide +kernel
theorem dX11_clash_27 : decode cX11_clash 27 = .ok (.iconst (-1), 1) := by decide +kernel
theorem dX11_clash_28 : decode cX11_clash 28 = .ok (.ireturn, 1) := by decide +kernel
theorem dX11_clash_11 : decode cX11_clash 11 = .ok (.aload_n 0, 1) := by decide +kernel
theorem dX11_clash_12 : decode cX11_clash 12 = .ok (.getfield 69, 3) := by decide +kernel
theorem dX11_clash_15 : decode cX11_clash 15 = .ok (.iload_n 2, 1) := by decide +kernel
theorem dX11_clash_16 : decode cX11_clash 16 = .ok (.invokevirtual 172, 3) := by decide +kernel
theorem dX11_clash_19 : decode cX11_clash 19 = .ok (.ifCond .eq 8, 3) := by decide +kernel
theorem dX11_clash_22 : decode cX11_clash 22 = .ok (.iload_n 1, 1) := by decide +kernel
theorem dX11_clash_23 : decode cX11_clash 23 = .ok (.iload_n 2, 1) := by decide +kernel
theorem dX11_clash_24 : decode cX11_clash 24 = .ok (.if_icmp .ne 5, 3) := by decide +kernel
theorem dX11_clash_29 : decode cX11_clash 29 = .ok (.aload_n 0, 1) := by decide +kernel
theorem dX11_clash_30 : decode cX11_clash 30 = .ok (.iload_n 3, 1) := by decide +kernel
theorem dX11_clash_31 : decode cX11_clash 31 = .ok (.invokevirtual 176, 3) := by decide +kernel
theorem dX11_clash_34 : decode cX11_clash 34 = .ok (.iload_n 1, 1) := by decide +kernel
theorem dX11_clash_35 : decode cX11_clash 35 = .ok (.iload_n 2, 1) := by decide +kernel
theorem dX11_clash_36 : decode cX11_clash 36 = .ok (.invokevirtual 313, 3) := by decide +kernel
theorem dX11_clash_39 : decode cX11_clash 39 = .ok (.ireturn, 1) := by decide +kernel
theorem dX11_worst_0 : decode cX11_worst 0 = .ok (.aload_n 0, 1) := by decide +kernel
theorem dX11_worst_1 : decode cX11_worst 1 = .ok (.iload_n 1, 1) := by decide +kernel
theorem dX11_worst_2 : decode cX11_worst 2 = .ok (.invokevirtual 176, 3) := by decide +kernel
theorem dX11_worst_5 : decode cX11_worst 5 = .ok (.aload_n 0, 1) := by decide +kernel
theorem dX11_worst_6 : decode cX11_worst 6 = .ok (.getfield 69, 3) := by decide +kernel
theorem dX11_worst_9 : decode cX11_worst 9 = .ok (.getfield 136, 3) := by decide +kernel
theorem dX11_worst_12 : decode cX11_worst 12 = .ok (.invokevirtual 316, 3) := by decide +kernel
theorem dX11_worst_15 : decode cX11_worst 15 = .ok (.ireturn, 1) := by decide +kernel
theorem dX11_squares_0 : decode cX11_squares 0 = .ok (.aload_n 0, 1) := by decide +kernel
theorem dX11_squares_1 : decode cX11_squares 1 = .ok (.iload_n 1, 1) := by decide +kernel
theorem dX11_squares_2 : decode cX11_squares 2 = .ok (.invokevirtual 176, 3) := by decide +kernel
theorem dX11_squares_5 : decode cX11_squares 5 = .ok (.invokevirtual 319, 3) := by decide +kernel
theorem dX11_squares_8 : decode cX11_squares 8 = .ok (.lreturn, 1) := by decide +kernel
theorem dX11_sums_0 : decode cX11_sums 0 = .ok (.aload_n 0, 1) := by decide +kernel
theorem dX11_sums_1 : decode cX11_sums 1 = .ok (.getfield 69, 3) := by decide +kernel
theorem dX11_sums_4 : decode cX11_sums 4 = .ok (.iload_n 1, 1) := by decide +kernel
theorem dX11_sums_5 : decode cX11_sums 5 = .ok (.invokevirtual 323, 3) := by decide +kernel
theorem dX11_sums_8 : decode cX11_sums 8 = .ok (.ifCond .eq 29, 3) := by decide +kernel
theorem dX11_sums_37 : decode cX11_sums 37 = .ok (.ldc2_w 308, 3) := by decide +kernel
theorem dX11_sums_40 : decode cX11_sums 40 = .ok (.lreturn, 1) := by decide +kernel
theorem dX11_sums_11 : decode cX11_sums 11 = .ok (.iload_n 2, 1) := by decide +kernel
theorem dX11_sums_12 : decode cX11_sums 12 = .ok (.iconst 1, 1) := by decide +kernel
theorem dX11_sums_13 : decode cX11_sums 13 = .ok (.if_icmp .lt 24, 3) := by decide +kernel
theorem dX11_sums_16 : decode cX11_sums 16 = .ok (.iload_n 2, 1) := by decide +kernel
theorem dX11_sums_17 : decode cX11_sums 17 = .ok (.iconst 2, 1) := by decide +kernel
theorem dX11_sums_18 : decode cX11_sums 18 = .ok (.if_icmp .gt 19, 3) := by decide +kernel
theorem dX11_sums_21 : decode cX11_sums 21 = .ok (.iload_n 3, 1) := by decide +kernel
theorem dX11_sums_22 : decode cX11_sums 22 = .ok (.iconst (-1), 1) := by decide +kernel
theorem dX11_sums_23 : decode cX11_sums 23 = .ok (.if_icmp .eq 18, 3) := by decide +kernel
theorem dX11_sums_41 : decode cX11_sums 41 = .ok (.aload_n 0, 1) := by decide +kernel
theorem dX11_sums_42 : decode cX11_sums 42 = .ok (.getfield 31, 3) := by decide +kernel
theorem dX11_sums_45 : decode cX11_sums 45 = .ok (.aload_n 0, 1) := by decide +kernel
theorem dX11_sums_46 : decode cX11_sums 46 = .ok (.getfield 69, 3) := by decide +kernel
theorem dX11_sums_49 : decode cX11_sums 49 = .ok (.iload_n 1, 1) := by decide +kernel
theorem dX11_sums_50 : decode cX11_sums 50 = .ok (.iload_n 2, 1) := by decide +kernel
theorem dX11_sums_51 : decode cX11_sums 51 = .ok (.invokevirtual 326, 3) := by decide +kernel
theorem dX11_sums_54 : decode cX11_sums 54 = .ok (.iload_n 3, 1) := by decide +kernel
theorem dX11_sums_55 : decode cX11_sums 55 = .ok (.iconst (-1), 1) := by decide +kernel
theorem dX11_sums_56 : decode cX11_sums 56 = .ok (.if_icmp .ne 13, 3) := by decide +kernel
theorem dX11_sums_59 : decode cX11_sums 59 = .ok (.aload_n 0, 1) := by decide +kernel
theorem dX11_sums_60 : decode cX11_sums 60 = .ok (.getfield 31, 3) := by decide +kernel
theorem dX11_sums_63 : decode cX11_sums 63 = .ok (.getfield 330, 3) := by decide +kernel
theorem dX11_sums_66 : decode cX11_sums 66 = .ok (.goto 13, 3) := by decide +kernel
theorem dX11_sums_79 : decode cX11_sums 79 = .ok (.lreturn, 1) := by decide +kernel
theorem dX11_sums_26 : decode cX11_sums 26 = .ok (.aload_n 0, 1) := by decide +kernel
theorem dX11_sums_27 : decode cX11_sums 27 = .ok (.getfield 69, 3) := by decide +kernel
theorem dX11_sums_30 : decode cX11_sums 30 = .ok (.iload_n 3, 1) := by decide +kernel
theorem dX11_sums_31 : decode cX11_sums 31 = .ok (.invokevirtual 172, 3) := by decide +kernel
theorem dX11_sums_34 : decode cX11_sums 34 = .ok (.ifCond .ne 7, 3) := by decide +kernel
theorem dX11_sums_69 : decode cX11_sums 69 = .ok (.aload_n 0, 1) := by decide +kernel
theorem dX11_sums_70 : decode cX11_sums 70 = .ok (.getfield 31, 3) := by decide +kernel
theorem dX11_sums_73 : decode cX11_sums 73 = .ok (.getfield 334, 3) := by decide +kernel
theorem dX11_sums_76 : decode cX11_sums 76 = .ok (.iload_n 3, 1) := by decide +kernel
theorem dX11_sums_77 : decode cX11_sums 77 = .ok (.iaload, 1) := by decide +kernel
theorem dX11_sums_78 : decode cX11_sums 78 = .ok (.i2l, 1) := by decide +kernel
theorem dX11_apart_0 : decode cX11_apart 0 = .ok (.aload_n 0, 1) := by decide +kernel
theorem dX11_apart_1 : decode cX11_apart 1 = .ok (.getfield 69, 3) := by decide +kernel
theorem dX11_apart_4 : decode cX11_apart 4 = .ok (.iload_n 1, 1) := by decide +kernel
theorem dX11_apart_5 : decode cX11_apart 5 = .ok (.invokevirtual 323, 3) := by decide +kernel
theorem dX11_apart_8 : decode cX11_apart 8 = .ok (.ifCond .eq 18, 3) := by decide +kernel
theorem dX11_apart_26 : decode cX11_apart 26 = .ok (.ldc2_w 212, 3) := by decide +kernel
theorem dX11_apart_29 : decode cX11_apart 29 = .ok (.lreturn, 1) := by decide +kernel
theorem dX11_apart_11 : decode cX11_apart 11 = .ok (.aload_n 0, 1) := by decide +kernel
theorem dX11_apart_12 : decode cX11_apart 12 = .ok (.getfield 31, 3) := by decide +kernel
theorem dX11_apart_15 : decode cX11_apart 15 = .ok (.aload_n 0, 1) := by decide +kernel
theorem dX11_apart_16 : decode cX11_apart 16 = .ok (.getfield 69, 3) := by decide +kernel
theorem dX11_apart_19 : decode cX11_apart 19 = .ok (.iload_n 1, 1) := by decide +kernel
theorem dX11_apart_20 : decode cX11_apart 20 = .ok (.invokevirtual 337, 3) := by decide +kernel
theorem dX11_apart_23 : decode cX11_apart 23 = .ok (.goto 6, 3) := by decide +kernel
theorem dX11_word_0 : decode cX11_word 0 = .ok (.aload_n 0, 1) := by decide +kernel
theorem dX11_word_1 : decode cX11_word 1 = .ok (.getfield 69, 3) := by decide +kernel
theorem dX11_word_4 : decode cX11_word 4 = .ok (.iload_n 1, 1) := by decide +kernel
theorem dX11_word_5 : decode cX11_word 5 = .ok (.invokevirtual 341, 3) := by decide +kernel
theorem dX11_word_8 : decode cX11_word 8 = .ok (.ifCond .eq 26, 3) := by decide +kernel
theorem dX11_word_34 : decode cX11_word 34 = .ok (.ldc 175, 2) := by decide +kernel
theorem dX11_word_36 : decode cX11_word 36 = .ok (.ireturn, 1) := by decide +kernel
theorem dX11_word_11 : decode cX11_word 11 = .ok (.aload_n 0, 1) := by decide +kernel
theorem dX11_word_12 : decode cX11_word 12 = .ok (.getfield 69, 3) := by decide +kernel
theorem dX11_word_15 : decode cX11_word 15 = .ok (.iload_n 2, 1) := by decide +kernel
theorem dX11_word_16 : decode cX11_word 16 = .ok (.invokevirtual 172, 3) := by decide +kernel
theorem dX11_word_19 : decode cX11_word 19 = .ok (.ifCond .eq 15, 3) := by decide +kernel
theorem dX11_word_22 : decode cX11_word 22 = .ok (.aload_n 0, 1) := by decide +kernel
theorem dX11_word_23 : decode cX11_word 23 = .ok (.getfield 69, 3) := by decide +kernel
theorem dX11_word_26 : decode cX11_word 26 = .ok (.iload_n 1, 1) := by decide +kernel
theorem dX11_word_27 : decode cX11_word 27 = .ok (.iload_n 2, 1) := by decide +kernel
theorem dX11_word_28 : decode cX11_word 28 = .ok (.invokevirtual 344, 3) := by decide +kernel
theorem dX11_word_31 : decode cX11_word 31 = .ok (.goto 5, 3) := by decide +kernel
theorem dX11_code_0 : decode cX11_code 0 = .ok (.iload_n 1, 1) := by decide +kernel
theorem dX11_code_1 : decode cX11_code 1 = .ok (.iconst 3, 1) := by decide +kernel
theorem dX11_code_2 : decode cX11_code 2 = .ok (.if_icmp .ne 28, 3) := by decide +kernel
theorem dX11_code_30 : decode cX11_code 30 = .ok (.iload_n 1, 1) := by decide +kernel
theorem dX11_code_31 : decode cX11_code 31 = .ok (.ifCond .lt 19, 3) := by decide +kernel
