theorem dX10_init_0 : decode cX10_init 0 = .ok (.aload_n 0, 1) := by decide +kernel
theorem dX10_init_1 : decode cX10_init 1 = .ok (.invokespecial 1, 3) := by decide +kernel
theorem dX10_init_4 : decode cX10_init 4 = .ok (.aload_n 0, 1) := by decide +kernel
theorem dX10_init_5 : decode cX10_init 5 = .ok (.new 7, 3) := by decide +kernel
theorem dX10_init_8 : decode cX10_init 8 = .ok (.dup, 1) := by decide +kernel
theorem dX10_init_9 : decode cX10_init 9 = .ok (.invokespecial 9, 3) := by decide +kernel
theorem dX10_init_12 : decode cX10_init 12 = .ok (.putfield 10, 3) := by decide +kernel
theorem dX10_init_15 : decode cX10_init 15 = .ok (.aload_n 0, 1) := by decide +kernel
theorem dX10_init_16 : decode cX10_init 16 = .ok (.iconst 4, 1) := by decide +kernel
theorem dX10_init_17 : decode cX10_init 17 = .ok (.anewarray 16, 3) := by decide +kernel
theorem dX10_init_20 : decode cX10_init 20 = .ok (.putfield 18, 3) := by decide +kernel
theorem dX10_init_23 : decode cX10_init 23 = .ok (.iconst 0, 1) := by decide +kernel
theorem dX10_init_24 : decode cX10_init 24 = .ok (.istore_n 1, 1) := by decide +kernel
theorem dX10_init_25 : decode cX10_init 25 = .ok (.iload_n 1, 1) := by decide +kernel
theorem dX10_init_26 : decode cX10_init 26 = .ok (.iconst 4, 1) := by decide +kernel
theorem dX10_init_27 : decode cX10_init 27 = .ok (.if_icmp .ge 22, 3) := by decide +kernel
theorem dX10_init_30 : decode cX10_init 30 = .ok (.aload_n 0, 1) := by decide +kernel
theorem dX10_init_31 : decode cX10_init 31 = .ok (.getfield 18, 3) := by decide +kernel
theorem dX10_init_34 : decode cX10_init 34 = .ok (.iload_n 1, 1) := by decide +kernel
theorem dX10_init_35 : decode cX10_init 35 = .ok (.new 16, 3) := by decide +kernel
theorem dX10_init_38 : decode cX10_init 38 = .ok (.dup, 1) := by decide +kernel
theorem dX10_init_39 : decode cX10_init 39 = .ok (.invokespecial 22, 3) := by decide +kernel
theorem dX10_init_42 : decode cX10_init 42 = .ok (.aastore, 1) := by decide +kernel
theorem dX10_init_43 : decode cX10_init 43 = .ok (.iinc 1 1, 3) := by decide +kernel
theorem dX10_init_46 : decode cX10_init 46 = .ok (.goto (-21), 3) := by decide +kernel
theorem dX10_init_49 : decode cX10_init 49 = .ok (.aload_n 0, 1) := by decide +kernel
theorem dX10_init_50 : decode cX10_init 50 = .ok (.bipush 20, 2) := by decide +kernel
theorem dX10_init_52 : decode cX10_init 52 = .ok (.anewarray 23, 3) := by decide +kernel
theorem dX10_init_55 : decode cX10_init 55 = .ok (.putfield 25, 3) := by decide +kernel
theorem dX10_init_58 : decode cX10_init 58 = .ok (.aload_n 0, 1) := by decide +kernel
theorem dX10_init_59 : decode cX10_init 59 = .ok (.iconst 0, 1) := by decide +kernel
theorem dX10_init_60 : decode cX10_init 60 = .ok (.putfield 29, 3) := by decide +kernel
theorem dX10_init_63 : decode cX10_init 63 = .ok (.return_, 1) := by decide +kernel
theorem dX10_loaf_0 : decode cX10_loaf 0 = .ok (.iload_n 1, 1) := by decide +kernel
theorem dX10_loaf_1 : decode cX10_loaf 1 = .ok (.iconst 0, 1) := by decide +kernel
theorem dX10_loaf_2 : decode cX10_loaf 2 = .ok (.bipush 7, 2) := by decide +kernel
theorem dX10_loaf_4 : decode cX10_loaf 4 = .ok (.invokestatic 33, 3) := by decide +kernel
theorem dX10_loaf_7 : decode cX10_loaf 7 = .ok (.ifCond .eq 14, 3) := by decide +kernel
theorem dX10_loaf_10 : decode cX10_loaf 10 = .ok (.iload_n 2, 1) := by decide +kernel
theorem dX10_loaf_11 : decode cX10_loaf 11 = .ok (.iconst 1, 1) := by decide +kernel
theorem dX10_loaf_12 : decode cX10_loaf 12 = .ok (.sipush 2000, 3) := by decide +kernel
theorem dX10_loaf_15 : decode cX10_loaf 15 = .ok (.invokestatic 33, 3) := by decide +kernel
theorem dX10_loaf_18 : decode cX10_loaf 18 = .ok (.ifCond .ne 6, 3) := by decide +kernel
theorem dX10_loaf_21 : decode cX10_loaf 21 = .ok (.bipush (-102), 2) := by decide +kernel
theorem dX10_loaf_23 : decode cX10_loaf 23 = .ok (.ireturn, 1) := by decide +kernel
theorem dX10_loaf_24 : decode cX10_loaf 24 = .ok (.aload_n 0, 1) := by decide +kernel
theorem dX10_loaf_25 : decode cX10_loaf 25 = .ok (.getfield 29, 3) := by decide +kernel
theorem dX10_loaf_28 : decode cX10_loaf 28 = .ok (.istore_n 3, 1) := by decide +kernel
theorem dX10_loaf_29 : decode cX10_loaf 29 = .ok (.iload_n 3, 1) := by decide +kernel
theorem dX10_loaf_30 : decode cX10_loaf 30 = .ok (.bipush 20, 2) := by decide +kernel
theorem dX10_loaf_32 : decode cX10_loaf 32 = .ok (.if_icmp .lt 6, 3) := by decide +kernel
theorem dX10_loaf_35 : decode cX10_loaf 35 = .ok (.bipush (-104), 2) := by decide +kernel
theorem dX10_loaf_37 : decode cX10_loaf 37 = .ok (.ireturn, 1) := by decide +kernel
theorem dX10_loaf_38 : decode cX10_loaf 38 = .ok (.aload_n 0, 1) := by decide +kernel
theorem dX10_loaf_39 : decode cX10_loaf 39 = .ok (.getfield 25, 3) := by decide +kernel
theorem dX10_loaf_42 : decode cX10_loaf 42 = .ok (.iload_n 3, 1) := by decide +kernel
theorem dX10_loaf_43 : decode cX10_loaf 43 = .ok (.aload_n 0, 1) := by decide +kernel
theorem dX10_loaf_44 : decode cX10_loaf 44 = .ok (.iload_n 1, 1) := by decide +kernel
theorem dX10_loaf_45 : decode cX10_loaf 45 = .ok (.iload_n 3, 1) := by decide +kernel
theorem dX10_loaf_46 : decode cX10_loaf 46 = .ok (.iload_n 2, 1) := by decide +kernel
theorem dX10_loaf_47 : decode cX10_loaf 47 = .ok (.invokevirtual 37, 3) := by decide +kernel
theorem dX10_loaf_50 : decode cX10_loaf 50 = .ok (.aastore, 1) := by decide +kernel
theorem dX10_loaf_51 : decode cX10_loaf 51 = .ok (.aload_n 0, 1) := by decide +kernel
theorem dX10_loaf_52 : decode cX10_loaf 52 = .ok (.iload_n 3, 1) := by decide +kernel
theorem dX10_loaf_53 : decode cX10_loaf 53 = .ok (.iconst 1, 1) := by decide +kernel
theorem dX10_loaf_54 : decode cX10_loaf 54 = .ok (.iadd, 1) := by decide +kernel
theorem dX10_loaf_55 : decode cX10_loaf 55 = .ok (.putfield 29, 3) := by decide +kernel
theorem dX10_loaf_58 : decode cX10_loaf 58 = .ok (.iload_n 3, 1) := by decide +kernel
theorem dX10_loaf_59 : decode cX10_loaf 59 = .ok (.ireturn, 1) := by decide +kernel
theorem dX10_shelf_0 : decode cX10_shelf 0 = .ok (.aload_n 0, 1) := by decide +kernel
theorem dX10_shelf_1 : decode cX10_shelf 1 = .ok (.iload_n 1, 1) := by decide +kernel
theorem dX10_shelf_2 : decode cX10_shelf 2 = .ok (.invokevirtual 41, 3) := by decide +kernel
theorem dX10_shelf_5 : decode cX10_shelf 5 = .ok (.astore_n 3, 1) := by decide +kernel
theorem dX10_shelf_6 : decode cX10_shelf 6 = .ok (.aload_n 3, 1) := by decide +kernel
theorem dX10_shelf_7 : decode cX10_shelf 7 = .ok (.ifnull 9, 3) := by decide +kernel
theorem dX10_shelf_10 : decode cX10_shelf 10 = .ok (.iload_n 2, 1) := by decide +kernel
theorem dX10_shelf_11 : decode cX10_shelf 11 = .ok (.bipush 8, 2) := by decide +kernel
theorem dX10_shelf_13 : decode cX10_shelf 13 = .ok (.if_icmp .le 6, 3) := by decide +kernel
theorem dX10_shelf_16 : decode cX10_shelf 16 = .ok (.bipush (-102), 2) := by decide +kernel
theorem dX10_shelf_18 : decode cX10_shelf 18 = .ok (.ireturn, 1) := by decide +kernel
theorem dX10_shelf_19 : decode cX10_shelf 19 = .ok (.iload_n 2, 1) := by decide +kernel
theorem dX10_shelf_20 : decode cX10_shelf 20 = .ok (.ifCond .ge 13, 3) := by decide +kernel
theorem dX10_shelf_23 : decode cX10_shelf 23 = .ok (.new 45, 3) := by decide +kernel
theorem dX10_shelf_26 : decode cX10_shelf 26 = .ok (.dup, 1) := by decide +kernel
theorem dX10_shelf_27 : decode cX10_shelf 27 = .ok (.ldc 47, 2) := by decide +kernel
theorem dX10_shelf_29 : decode cX10_shelf 29 = .ok (.invokespecial 49, 3) := by decide +kernel
theorem dX10_shelf_32 : decode cX10_shelf 32 = .ok (.athrow, 1) := by decide +kernel
theorem dX10_shelf_33 : decode cX10_shelf 33 = .ok (.aload_n 3, 1) := by decide +kernel
theorem dX10_shelf_34 : decode cX10_shelf 34 = .ok (.iload_n 2, 1) := by decide +kernel
theorem dX10_shelf_35 : decode cX10_shelf 35 = .ok (.invokevirtual 52, 3) := by decide +kernel
theorem dX10_shelf_38 : decode cX10_shelf 38 = .ok (.iload_n 2, 1) := by decide +kernel
theorem dX10_shelf_39 : decode cX10_shelf 39 = .ok (.ireturn, 1) := by decide +kernel
theorem dX10_out_0 : decode cX10_out 0 = .ok (.aload_n 0, 1) := by decide +kernel
theorem dX10_out_1 : decode cX10_out 1 = .ok (.iload_n 1, 1) := by decide +kernel
theorem dX10_out_2 : decode cX10_out 2 = .ok (.invokevirtual 41, 3) := by decide +kernel
theorem dX10_out_5 : decode cX10_out 5 = .ok (.astore_n 2, 1) := by decide +kernel
theorem dX10_out_6 : decode cX10_out 6 = .ok (.aload_n 2, 1) := by decide +kernel
theorem dX10_out_7 : decode cX10_out 7 = .ok (.ifnonnull 6, 3) := by decide +kernel
theorem dX10_out_10 : decode cX10_out 10 = .ok (.bipush (-102), 2) := by decide +kernel
theorem dX10_out_12 : decode cX10_out 12 = .ok (.ireturn, 1) := by decide +kernel
theorem dX10_out_13 : decode cX10_out 13 = .ok (.aload_n 2, 1) := by decide +kernel
theorem dX10_out_14 : decode cX10_out 14 = .ok (.invokevirtual 56, 3) := by decide +kernel
theorem dX10_out_17 : decode cX10_out 17 = .ok (.ifCond .eq 5, 3) := by decide +kernel
theorem dX10_out_20 : decode cX10_out 20 = .ok (.iconst 0, 1) := by decide +kernel
theorem dX10_out_21 : decode cX10_out 21 = .ok (.ireturn, 1) := by decide +kernel
theorem dX10_out_22 : decode cX10_out 22 = .ok (.aload_n 2, 1) := by decide +kernel
theorem dX10_out_23 : decode cX10_out 23 = .ok (.invokevirtual 60, 3) := by decide +kernel
theorem dX10_out_26 : decode cX10_out 26 = .ok (.iconst 1, 1) := by decide +kernel
theorem dX10_out_27 : decode cX10_out 27 = .ok (.ireturn, 1) := by decide +kernel
theorem dX10_rest_0 : decode cX10_rest 0 = .ok (.aload_n 0, 1) := by decide +kernel
theorem dX10_rest_1 : decode cX10_rest 1 = .ok (.iload_n 1, 1) := by decide +kernel
theorem dX10_rest_2 : decode cX10_rest 2 = .ok (.invokevirtual 63, 3) := by decide +kernel
theorem dX10_rest_5 : decode cX10_rest 5 = .ok (.astore_n 3, 1) := by decide +kernel
theorem dX10_rest_6 : decode cX10_rest 6 = .ok (.aload_n 3, 1) := by decide +kernel
theorem dX10_rest_7 : decode cX10_rest 7 = .ok (.ifnonnull 6, 3) := by decide +kernel
theorem dX10_rest_10 : decode cX10_rest 10 = .ok (.bipush (-101), 2) := by decide +kernel
theorem dX10_rest_12 : decode cX10_rest 12 = .ok (.ireturn, 1) := by decide +kernel
theorem dX10_rest_13 : decode cX10_rest 13 = .ok (.iload_n 2, 1) := by decide +kernel
theorem dX10_rest_14 : decode cX10_rest 14 = .ok (.iconst 0, 1) := by decide +kernel
theorem dX10_rest_15 : decode cX10_rest 15 = .ok (.sipush 600, 3) := by decide +kernel
theorem dX10_rest_18 : decode cX10_rest 18 = .ok (.invokestatic 33, 3) := by decide +kernel
theorem dX10_rest_21 : decode cX10_rest 21 = .ok (.ifCond .eq 11, 3) := by decide +kernel
theorem dX10_rest_24 : decode cX10_rest 24 = .ok (.aload_n 3, 1) := by decide +kernel
theorem dX10_rest_25 : decode cX10_rest 25 = .ok (.iload_n 2, 1) := by decide +kernel
theorem dX10_rest_26 : decode cX10_rest 26 = .ok (.invokevirtual 67, 3) := by decide +kernel
theorem dX10_rest_29 : decode cX10_rest 29 = .ok (.goto 5, 3) := by decide +kernel
theorem dX10_rest_32 : decode cX10_rest 32 = .ok (.bipush (-102), 2) := by decide +kernel
theorem dX10_rest_34 : decode cX10_rest 34 = .ok (.ireturn, 1) := by decide +kernel
theorem dX10_fold_0 : decode cX10_fold 0 = .ok (.aload_n 0, 1) := by decide +kernel
theorem dX10_fold_1 : decode cX10_fold 1 = .ok (.iload_n 1, 1) := by decide +kernel
theorem dX10_fold_2 : decode cX10_fold 2 = .ok (.invokevirtual 63, 3) := by decide +kernel
theorem dX10_fold_5 : decode cX10_fold 5 = .ok (.astore_n 2, 1) := by decide +kernel
theorem dX10_fold_6 : decode cX10_fold 6 = .ok (.aload_n 2, 1) := by decide +kernel
theorem dX10_fold_7 : decode cX10_fold 7 = .ok (.ifnonnull 6, 3) := by decide +kernel
theorem dX10_fold_10 : decode cX10_fold 10 = .ok (.bipush (-101), 2) := by decide +kernel
theorem dX10_fold_12 : decode cX10_fold 12 = .ok (.ireturn, 1) := by decide +kernel
theorem dX10_fold_13 : decode cX10_fold 13 = .ok (.aload_n 2, 1) := by decide +kernel
theorem dX10_fold_14 : decode cX10_fold 14 = .ok (.invokevirtual 71, 3) := by decide +kernel
theorem dX10_fold_17 : decode cX10_fold 17 = .ok (.aload_n 2, 1) := by decide +kernel
theorem dX10_fold_18 : decode cX10_fold 18 = .ok (.getfield 74, 3) := by decide +kernel
theorem dX10_fold_21 : decode cX10_fold 21 = .ok (.ireturn, 1) := by decide +kernel
theorem dX10_lay_0 : decode cX10_lay 0 = .ok (.aload_n 0, 1) := by decide +kernel
theorem dX10_lay_1 : decode cX10_lay 1 = .ok (.iload_n 1, 1) := by decide +kernel
theorem dX10_lay_2 : decode cX10_lay 2 = .ok (.invokevirtual 63, 3) := by decide +kernel
theorem dX10_lay_5 : decode cX10_lay 5 = .ok (.astore 4, 2) := by decide +kernel
theorem dX10_lay_7 : decode cX10_lay 7 = .ok (.aload 4, 2) := by decide +kernel
theorem dX10_lay_9 : decode cX10_lay 9 = .ok (.ifnonnull 6, 3) := by decide +kernel
theorem dX10_lay_12 : decode cX10_lay 12 = .ok (.bipush (-101), 2) := by decide +kernel
theorem dX10_lay_14 : decode cX10_lay 14 = .ok (.ireturn, 1) := by decide +kernel
theorem dX10_lay_15 : decode cX10_lay 15 = .ok (.aload_n 0, 1) := by decide +kernel
theorem dX10_lay_16 : decode cX10_lay 16 = .ok (.iload_n 2, 1) := by decide +kernel
theorem dX10_lay_17 : decode cX10_lay 17 = .ok (.invokevirtual 41, 3) := by decide +kernel
theorem dX10_lay_20 : decode cX10_lay 20 = .ok (.astore 5, 2) := by decide +kernel
theorem dX10_lay_22 : decode cX10_lay 22 = .ok (.aload 5, 2) := by decide +kernel
theorem dX10_lay_24 : decode cX10_lay 24 = .ok (.ifnonnull 6, 3) := by decide +kernel
theorem dX10_lay_27 : decode cX10_lay 27 = .ok (.bipush (-102), 2) := by decide +kernel
theorem dX10_lay_29 : decode cX10_lay 29 = .ok (.ireturn, 1) := by decide +kernel
theorem dX10_lay_30 : decode cX10_lay 30 = .ok (.aload 4, 2) := by decide +kernel
theorem dX10_lay_32 : decode cX10_lay 32 = .ok (.aload 5, 2) := by decide +kernel
theorem dX10_lay_34 : decode cX10_lay 34 = .ok (.iload_n 3, 1) := by decide +kernel
theorem dX10_lay_35 : decode cX10_lay 35 = .ok (.invokevirtual 77, 3) := by decide +kernel
theorem dX10_lay_38 : decode cX10_lay 38 = .ok (.aload_n 0, 1) := by decide +kernel
theorem dX10_lay_39 : decode cX10_lay 39 = .ok (.iload_n 1, 1) := by decide +kernel
theorem dX10_lay_40 : decode cX10_lay 40 = .ok (.invokevirtual 81, 3) := by decide +kernel
theorem dX10_lay_43 : decode cX10_lay 43 = .ok (.ireturn, 1) := by decide +kernel
theorem dX10_bake_0 : decode cX10_bake 0 = .ok (.aload_n 0, 1) := by decide +kernel
theorem dX10_bake_1 : decode cX10_bake 1 = .ok (.iload_n 1, 1) := by decide +kernel
theorem dX10_bake_2 : decode cX10_bake 2 = .ok (.invokevirtual 63, 3) := by decide +kernel
theorem dX10_bake_5 : decode cX10_bake 5 = .ok (.astore_n 3, 1) := by decide +kernel
theorem dX10_bake_6 : decode cX10_bake 6 = .ok (.aload_n 3, 1) := by decide +kernel
theorem dX10_bake_7 : decode cX10_bake 7 = .ok (.ifnonnull 6, 3) := by decide +kernel
theorem dX10_bake_10 : decode cX10_bake 10 = .ok (.bipush (-101), 2) := by decide +kernel
theorem dX10_bake_12 : decode cX10_bake 12 = .ok (.ireturn, 1) := by decide +kernel
theorem dX10_bake_13 : decode cX10_bake 13 = .ok (.iload_n 2, 1) := by decide +kernel
theorem dX10_bake_14 : decode cX10_bake 14 = .ok (.iconst 0, 1) := by decide +kernel
theorem dX10_bake_15 : decode cX10_bake 15 = .ok (.sipush 400, 3) := by decide +kernel
theorem dX10_bake_18 : decode cX10_bake 18 = .ok (.invokestatic 33, 3) := by decide +kernel
theorem dX10_bake_21 : decode cX10_bake 21 = .ok (.ifCond .ne 6, 3) := by decide +kernel
theorem dX10_bake_24 : decode cX10_bake 24 = .ok (.bipush (-102), 2) := by decide +kernel
theorem dX10_bake_26 : decode cX10_bake 26 = .ok (.ireturn, 1) := by decide +kernel
theorem dX10_bake_27 : decode cX10_bake 27 = .ok (.aload_n 3, 1) := by decide +kernel
theorem dX10_bake_28 : decode cX10_bake 28 = .ok (.iload_n 2, 1) := by decide +kernel
theorem dX10_bake_29 : decode cX10_bake 29 = .ok (.invokevirtual 84, 3) := by decide +kernel
theorem dX10_bake_32 : decode cX10_bake 32 = .ok (.ifCond .eq 7, 3) := by decide +kernel
theorem dX10_bake_35 : decode cX10_bake 35 = .ok (.iconst 1, 1) := by decide +kernel
theorem dX10_bake_36 : decode cX10_bake 36 = .ok (.goto 4, 3) := by decide +kernel
theorem dX10_bake_39 : decode cX10_bake 39 = .ok (.iconst 0, 1) := by decide +kernel
theorem dX10_bake_40 : decode cX10_bake 40 = .ok (.ireturn, 1) := by decide +kernel
theorem dX10_worth_0 : decode cX10_worth 0 = .ok (.aload_n 0, 1) := by decide +kernel
theorem dX10_worth_1 : decode cX10_worth 1 = .ok (.iload_n 1, 1) := by decide +kernel
theorem dX10_worth_2 : decode cX10_worth 2 = .ok (.invokevirtual 63, 3) := by decide +kernel
theorem dX10_worth_5 : decode cX10_worth 5 = .ok (.astore_n 2, 1) := by decide +kernel
theorem dX10_worth_6 : decode cX10_worth 6 = .ok (.aload_n 2, 1) := by decide +kernel
theorem dX10_worth_7 : decode cX10_worth 7 = .ok (.ifnonnull 8, 3) := by decide +kernel
theorem dX10_worth_10 : decode cX10_worth 10 = .ok (.bipush (-101), 2) := by decide +kernel
theorem dX10_worth_12 : decode cX10_worth 12 = .ok (.goto 7, 3) := by decide +kernel
theorem dX10_worth_15 : decode cX10_worth 15 = .ok (.aload_n 2, 1) := by decide +kernel
theorem dX10_worth_16 : decode cX10_worth 16 = .ok (.invokevirtual 88, 3) := by decide +kernel
theorem dX10_worth_19 : decode cX10_worth 19 = .ok (.ireturn, 1) := by decide +kernel
theorem dX10_cost_0 : decode cX10_cost 0 = .ok (.aload_n 0, 1) := by decide +kernel
theorem dX10_cost_1 : decode cX10_cost 1 = .ok (.iload_n 1, 1) := by decide +kernel
theorem dX10_cost_2 : decode cX10_cost 2 = .ok (.invokevirtual 63, 3) := by decide +kernel
theorem dX10_cost_5 : decode cX10_cost 5 = .ok (.astore_n 2, 1) := by decide +kernel
theorem dX10_cost_6 : decode cX10_cost 6 = .ok (.aload_n 2, 1) := by decide +kernel
theorem dX10_cost_7 : decode cX10_cost 7 = .ok (.ifnonnull 6, 3) := by decide +kernel
theorem dX10_cost_10 : decode cX10_cost 10 = .ok (.bipush (-101), 2) := by decide +kernel
theorem dX10_cost_12 : decode cX10_cost 12 = .ok (.ireturn, 1) := by decide +kernel
theorem dX10_cost_13 : decode cX10_cost 13 = .ok (.aload_n 2, 1) := by decide +kernel
theorem dX10_cost_14 : decode cX10_cost 14 = .ok (.invokestatic 92, 3) := by decide +kernel
theorem dX10_cost_17 : decode cX10_cost 17 = .ok (.ifCond .eq 10, 3) := by decide +kernel
theorem dX10_cost_20 : decode cX10_cost 20 = .ok (.aload_n 2, 1) := by decide +kernel
theorem dX10_cost_21 : decode cX10_cost 21 = .ok (.invokestatic 96, 3) := by decide +kernel
theorem dX10_cost_24 : decode cX10_cost 24 = .ok (.goto 5, 3) := by decide +kernel
theorem dX10_cost_27 : decode cX10_cost 27 = .ok (.bipush (-103), 2) := by decide +kernel
theorem dX10_cost_29 : decode cX10_cost 29 = .ok (.ireturn, 1) := by decide +kernel
theorem dX10_change_0 : decode cX10_change 0 = .ok (.aload_n 0, 1) := by decide +kernel
theorem dX10_change_1 : decode cX10_change 1 = .ok (.iload_n 1, 1) := by decide +kernel
theorem dX10_change_2 : decode cX10_change 2 = .ok (.invokevirtual 63, 3) := by decide +kernel
theorem dX10_change_5 : decode cX10_change 5 = .ok (.astore_n 3, 1) := by decide +kernel
theorem dX10_change_6 : decode cX10_change 6 = .ok (.aload_n 3, 1) := by decide +kernel
theorem dX10_change_7 : decode cX10_change 7 = .ok (.ifnonnull 6, 3) := by decide +kernel
theorem dX10_change_10 : decode cX10_change 10 = .ok (.bipush (-101), 2) := by decide +kernel
theorem dX10_change_12 : decode cX10_change 12 = .ok (.ireturn, 1) := by decide +kernel
theorem dX10_change_13 : decode cX10_change 13 = .ok (.iload_n 2, 1) := by decide +kernel
theorem dX10_change_14 : decode cX10_change 14 = .ok (.iconst 0, 1) := by decide +kernel
theorem dX10_change_15 : decode cX10_change 15 = .ok (.ldc 100, 2) := by decide +kernel
theorem dX10_change_17 : decode cX10_change 17 = .ok (.invokestatic 33, 3) := by decide +kernel
theorem dX10_change_20 : decode cX10_change 20 = .ok (.ifCond .ne 6, 3) := by decide +kernel
theorem dX10_change_23 : decode cX10_change 23 = .ok (.bipush (-102), 2) := by decide +kernel
theorem dX10_change_25 : decode cX10_change 25 = .ok (.ireturn, 1) := by decide +kernel
theorem dX10_change_26 : decode cX10_change 26 = .ok (.aload_n 3, 1) := by decide +kernel
theorem dX10_change_27 : decode cX10_change 27 = .ok (.invokestatic 92, 3) := by decide +kernel
theorem dX10_change_30 : decode cX10_change 30 = .ok (.ifCond .ne 6, 3) := by decide +kernel
theorem dX10_change_33 : decode cX10_change 33 = .ok (.bipush (-103), 2) := by decide +kernel
theorem dX10_change_35 : decode cX10_change 35 = .ok (.ireturn, 1) := by decide +kernel
theorem dX10_change_36 : decode cX10_change 36 = .ok (.iload_n 2, 1) := by decide +kernel
theorem dX10_change_37 : decode cX10_change 37 = .ok (.aload_n 3, 1) := by decide +kernel
theorem dX10_change_38 : decode cX10_change 38 = .ok (.invokestatic 96, 3) := by decide +kernel
theorem dX10_change_41 : decode cX10_change 41 = .ok (.isub, 1) := by decide +kernel
theorem dX10_change_42 : decode cX10_change 42 = .ok (.istore 4, 2) := by decide +kernel
theorem dX10_change_44 : decode cX10_change 44 = .ok (.iload 4, 2) := by decide +kernel
theorem dX10_change_46 : decode cX10_change 46 = .ok (.ifCond .ge 7, 3) := by decide +kernel
theorem dX10_change_49 : decode cX10_change 49 = .ok (.iconst (-1), 1) := by decide +kernel
theorem dX10_change_50 : decode cX10_change 50 = .ok (.goto 5, 3) := by decide +kernel
theorem dX10_change_53 : decode cX10_change 53 = .ok (.iload 4, 2) := by decide +kernel
theorem dX10_change_55 : decode cX10_change 55 = .ok (.ireturn, 1) := by decide +kernel
theorem dX10_fire_0 : decode cX10_fire 0 = .ok (.iload_n 1, 1) := by decide +kernel
theorem dX10_fire_1 : decode cX10_fire 1 = .ok (.iconst 0, 1) := by decide +kernel
theorem dX10_fire_2 : decode cX10_fire 2 = .ok (.sipush 400, 3) := by decide +kernel
theorem dX10_fire_5 : decode cX10_fire 5 = .ok (.invokestatic 33, 3) := by decide +kernel
theorem dX10_fire_8 : decode cX10_fire 8 = .ok (.ifCond .ne 6, 3) := by decide +kernel
theorem dX10_fire_11 : decode cX10_fire 11 = .ok (.bipush (-102), 2) := by decide +kernel
theorem dX10_fire_13 : decode cX10_fire 13 = .ok (.ireturn, 1) := by decide +kernel
theorem dX10_fire_14 : decode cX10_fire 14 = .ok (.iconst 0, 1) := by decide +kernel
theorem dX10_fire_15 : decode cX10_fire 15 = .ok (.istore_n 2, 1) := by decide +kernel
theorem dX10_fire_16 : decode cX10_fire 16 = .ok (.iconst 0, 1) := by decide +kernel
theorem dX10_fire_17 : decode cX10_fire 17 = .ok (.istore_n 3, 1) := by decide +kernel
theorem dX10_fire_18 : decode cX10_fire 18 = .ok (.iload_n 3, 1) := by decide +kernel
theorem dX10_fire_19 : decode cX10_fire 19 = .ok (.iconst 4, 1) := by decide +kernel
theorem dX10_fire_20 : decode cX10_fire 20 = .ok (.if_icmp .ge 18, 3) := by decide +kernel
theorem dX10_fire_23 : decode cX10_fire 23 = .ok (.iload_n 2, 1) := by decide +kernel
theorem dX10_fire_24 : decode cX10_fire 24 = .ok (.aload_n 0, 1) := by decide +kernel
theorem dX10_fire_25 : decode cX10_fire 25 = .ok (.iload_n 3, 1) := by decide +kernel
theorem dX10_fire_26 : decode cX10_fire 26 = .ok (.iload_n 1, 1) := by decide +kernel
theorem dX10_fire_27 : decode cX10_fire 27 = .ok (.invokevirtual 101, 3) := by decide +kernel
theorem dX10_fire_30 : decode cX10_fire 30 = .ok (.iadd, 1) := by decide +kernel
theorem dX10_fire_31 : decode cX10_fire 31 = .ok (.istore_n 2, 1) := by decide +kernel
theorem dX10_fire_32 : decode cX10_fire 32 = .ok (.iinc 3 1, 3) := by decide +kernel
theorem dX10_fire_35 : decode cX10_fire 35 = .ok (.goto (-17), 3) := by decide +kernel
theorem dX10_fire_38 : decode cX10_fire 38 = .ok (.iload_n 2, 1) := by decide +kernel
theorem dX10_fire_39 : decode cX10_fire 39 = .ok (.ireturn, 1) := by decide +kernel
theorem dX10_night_0 : decode cX10_night 0 = .ok (.iload_n 1, 1) := by decide +kernel
theorem dX10_night_1 : decode cX10_night 1 = .ok (.iconst 0, 1) := by decide +kernel
theorem dX10_night_2 : decode cX10_night 2 = .ok (.sipush 600, 3) := by decide +kernel
theorem dX10_night_5 : decode cX10_night 5 = .ok (.invokestatic 33, 3) := by decide +kernel
theorem dX10_night_8 : decode cX10_night 8 = .ok (.ifCond .ne 6, 3) := by decide +kernel
theorem dX10_night_11 : decode cX10_night 11 = .ok (.bipush (-102), 2) := by decide +kernel
theorem dX10_night_13 : decode cX10_night 13 = .ok (.ireturn, 1) := by decide +kernel
theorem dX10_night_14 : decode cX10_night 14 = .ok (.iconst 0, 1) := by decide +kernel
theorem dX10_night_15 : decode cX10_night 15 = .ok (.istore_n 2, 1) := by decide +kernel
theorem dX10_night_16 : decode cX10_night 16 = .ok (.iconst 0, 1) := by decide +kernel
theorem dX10_night_17 : decode cX10_night 17 = .ok (.istore_n 3, 1) := by decide +kernel
theorem dX10_night_18 : decode cX10_night 18 = .ok (.iload_n 3, 1) := by decide +kernel
theorem dX10_night_19 : decode cX10_night 19 = .ok (.bipush 20, 2) := by decide +kernel
theorem dX10_night_21 : decode cX10_night 21 = .ok (.if_icmp .ge 33, 3) := by decide +kernel
theorem dX10_night_24 : decode cX10_night 24 = .ok (.aload_n 0, 1) := by decide +kernel
theorem dX10_night_25 : decode cX10_night 25 = .ok (.iload_n 3, 1) := by decide +kernel
theorem dX10_night_26 : decode cX10_night 26 = .ok (.invokevirtual 63, 3) := by decide +kernel
theorem dX10_night_29 : decode cX10_night 29 = .ok (.astore 4, 2) := by decide +kernel
theorem dX10_night_31 : decode cX10_night 31 = .ok (.aload 4, 2) := by decide +kernel
theorem dX10_night_33 : decode cX10_night 33 = .ok (.ifnull 15, 3) := by decide +kernel
theorem dX10_night_36 : decode cX10_night 36 = .ok (.aload 4, 2) := by decide +kernel
theorem dX10_night_38 : decode cX10_night 38 = .ok (.iload_n 1, 1) := by decide +kernel
theorem dX10_night_39 : decode cX10_night 39 = .ok (.invokestatic 105, 3) := by decide +kernel
theorem dX10_night_42 : decode cX10_night 42 = .ok (.ifCond .eq 6, 3) := by decide +kernel
theorem dX10_night_45 : decode cX10_night 45 = .ok (.iinc 2 1, 3) := by decide +kernel
theorem dX10_night_48 : decode cX10_night 48 = .ok (.iinc 3 1, 3) := by decide +kernel
theorem dX10_night_51 : decode cX10_night 51 = .ok (.goto (-33), 3) := by decide +kernel
theorem dX10_night_54 : decode cX10_night 54 = .ok (.iload_n 2, 1) := by decide +kernel
theorem dX10_night_55 : decode cX10_night 55 = .ok (.ireturn, 1) := by decide +kernel
theorem dX10_at_0 : decode cX10_at 0 = .ok (.aload_n 0, 1) := by decide +kernel
theorem dX10_at_1 : decode cX10_at 1 = .ok (.iload_n 1, 1) := by decide +kernel
theorem dX10_at_2 : decode cX10_at 2 = .ok (.invokevirtual 41, 3) := by decide +kernel
theorem dX10_at_5 : decode cX10_at 5 = .ok (.astore_n 3, 1) := by decide +kernel
theorem dX10_at_6 : decode cX10_at 6 = .ok (.aload_n 3, 1) := by decide +kernel
theorem dX10_at_7 : decode cX10_at 7 = .ok (.ifnonnull 8, 3) := by decide +kernel
theorem dX10_at_10 : decode cX10_at 10 = .ok (.bipush (-102), 2) := by decide +kernel
theorem dX10_at_12 : decode cX10_at 12 = .ok (.goto 8, 3) := by decide +kernel
theorem dX10_at_15 : decode cX10_at 15 = .ok (.aload_n 3, 1) := by decide +kernel
theorem dX10_at_16 : decode cX10_at 16 = .ok (.iload_n 2, 1) := by decide +kernel
theorem dX10_at_17 : decode cX10_at 17 = .ok (.invokevirtual 109, 3) := by decide +kernel
theorem dX10_at_20 : decode cX10_at 20 = .ok (.ireturn, 1) := by decide +kernel
theorem dX10_places_0 : decode cX10_places 0 = .ok (.aload_n 0, 1) := by decide +kernel
theorem dX10_places_1 : decode cX10_places 1 = .ok (.iload_n 1, 1) := by decide +kernel
theorem dX10_places_2 : decode cX10_places 2 = .ok (.invokevirtual 41, 3) := by decide +kernel
theorem dX10_places_5 : decode cX10_places 5 = .ok (.astore_n 2, 1) := by decide +kernel
theorem dX10_places_6 : decode cX10_places 6 = .ok (.aload_n 2, 1) := by decide +kernel
theorem dX10_places_7 : decode cX10_places 7 = .ok (.ifnonnull 6, 3) := by decide +kernel
theorem dX10_places_10 : decode cX10_places 10 = .ok (.bipush (-102), 2) := by decide +kernel
theorem dX10_places_12 : decode cX10_places 12 = .ok (.ireturn, 1) := by decide +kernel
theorem dX10_places_13 : decode cX10_places 13 = .ok (.aload_n 2, 1) := by decide +kernel
theorem dX10_places_14 : decode cX10_places 14 = .ok (.invokevirtual 56, 3) := by decide +kernel
theorem dX10_places_17 : decode cX10_places 17 = .ok (.ifCond .eq 7, 3) := by decide +kernel
theorem dX10_places_20 : decode cX10_places 20 = .ok (.iconst (-1), 1) := by decide +kernel
theorem dX10_places_21 : decode cX10_places 21 = .ok (.goto 7, 3) := by decide +kernel
theorem dX10_places_24 : decode cX10_places 24 = .ok (.aload_n 2, 1) := by decide +kernel
theorem dX10_places_25 : decode cX10_places 25 = .ok (.getfield 112, 3) := by decide +kernel
theorem dX10_places_28 : decode cX10_places 28 = .ok (.ireturn, 1) := by decide +kernel
theorem dX10_tell_0 : decode cX10_tell 0 = .ok (.aload_n 0, 1) := by decide +kernel
theorem dX10_tell_1 : decode cX10_tell 1 = .ok (.iload_n 1, 1) := by decide +kernel
theorem dX10_tell_2 : decode cX10_tell 2 = .ok (.invokevirtual 63, 3) := by decide +kernel
theorem dX10_tell_5 : decode cX10_tell 5 = .ok (.astore_n 3, 1) := by decide +kernel
theorem dX10_tell_6 : decode cX10_tell 6 = .ok (.aload_n 3, 1) := by decide +kernel
theorem dX10_tell_7 : decode cX10_tell 7 = .ok (.ifnonnull 6, 3) := by decide +kernel
theorem dX10_tell_10 : decode cX10_tell 10 = .ok (.bipush (-101), 2) := by decide +kernel
theorem dX10_tell_12 : decode cX10_tell 12 = .ok (.ireturn, 1) := by decide +kernel
theorem dX10_tell_13 : decode cX10_tell 13 = .ok (.iload_n 2, 1) := by decide +kernel
theorem dX10_tell_14 : decode cX10_tell 14 = .ok (.tableswitch 68 0 5 #[38, 43, 48, 53, 58, 63], 38) := by decide +kernel
theorem dX10_tell_52 : decode cX10_tell 52 = .ok (.aload_n 3, 1) := by decide +kernel
theorem dX10_tell_53 : decode cX10_tell 53 = .ok (.getfield 115, 3) := by decide +kernel
theorem dX10_tell_56 : decode cX10_tell 56 = .ok (.ireturn, 1) := by decide +kernel
theorem dX10_tell_57 : decode cX10_tell 57 = .ok (.aload_n 3, 1) := by decide +kernel
theorem dX10_tell_58 : decode cX10_tell 58 = .ok (.getfield 118, 3) := by decide +kernel
theorem dX10_tell_61 : decode cX10_tell 61 = .ok (.ireturn, 1) := by decide +kernel
theorem dX10_tell_62 : decode cX10_tell 62 = .ok (.aload_n 3, 1) := by decide +kernel
theorem dX10_tell_63 : decode cX10_tell 63 = .ok (.getfield 121, 3) := by decide +kernel
theorem dX10_tell_66 : decode cX10_tell 66 = .ok (.ireturn, 1) := by decide +kernel
theorem dX10_tell_67 : decode cX10_tell 67 = .ok (.aload_n 3, 1) := by decide +kernel
theorem dX10_tell_68 : decode cX10_tell 68 = .ok (.getfield 74, 3) := by decide +kernel
theorem dX10_tell_71 : decode cX10_tell 71 = .ok (.ireturn, 1) := by decide +kernel
theorem dX10_tell_72 : decode cX10_tell 72 = .ok (.aload_n 3, 1) := by decide +kernel
theorem dX10_tell_73 : decode cX10_tell 73 = .ok (.getfield 124, 3) := by decide +kernel
theorem dX10_tell_76 : decode cX10_tell 76 = .ok (.ireturn, 1) := by decide +kernel
theorem dX10_tell_77 : decode cX10_tell 77 = .ok (.aload_n 3, 1) := by decide +kernel
theorem dX10_tell_78 : decode cX10_tell 78 = .ok (.getfield 127, 3) := by decide +kernel
theorem dX10_tell_81 : decode cX10_tell 81 = .ok (.ireturn, 1) := by decide +kernel
theorem dX10_tell_82 : decode cX10_tell 82 = .ok (.bipush (-102), 2) := by decide +kernel
theorem dX10_tell_84 : decode cX10_tell 84 = .ok (.ireturn, 1) := by decide +kernel
theorem dX10_book_0 : decode cX10_book 0 = .ok (.aload_n 0, 1) := by decide +kernel
theorem dX10_book_1 : decode cX10_book 1 = .ok (.getfield 10, 3) := by decide +kernel
theorem dX10_book_4 : decode cX10_book 4 = .ok (.iload_n 1, 1) := by decide +kernel
theorem dX10_book_5 : decode cX10_book 5 = .ok (.invokevirtual 130, 3) := by decide +kernel
theorem dX10_book_8 : decode cX10_book 8 = .ok (.ireturn, 1) := by decide +kernel
theorem dX10_count_0 : decode cX10_count 0 = .ok (.iload_n 1, 1) := by decide +kernel
theorem dX10_count_1 : decode cX10_count 1 = .ok (.tableswitch 72 0 4 #[35, 40, 48, 56, 64], 35) := by decide +kernel
theorem dX10_count_36 : decode cX10_count 36 = .ok (.aload_n 0, 1) := by decide +kernel
theorem dX10_count_37 : decode cX10_count 37 = .ok (.getfield 29, 3) := by decide +kernel
theorem dX10_count_40 : decode cX10_count 40 = .ok (.ireturn, 1) := by decide +kernel
theorem dX10_count_41 : decode cX10_count 41 = .ok (.aload_n 0, 1) := by decide +kernel
theorem dX10_count_42 : decode cX10_count 42 = .ok (.getfield 10, 3) := by decide +kernel
theorem dX10_count_45 : decode cX10_count 45 = .ok (.getfield 133, 3) := by decide +kernel
theorem dX10_count_48 : decode cX10_count 48 = .ok (.ireturn, 1) := by decide +kernel
theorem dX10_count_49 : decode cX10_count 49 = .ok (.aload_n 0, 1) := by decide +kernel
theorem dX10_count_50 : decode cX10_count 50 = .ok (.getfield 10, 3) := by decide +kernel
theorem dX10_count_53 : decode cX10_count 53 = .ok (.getfield 136, 3) := by decide +kernel
theorem dX10_count_56 : decode cX10_count 56 = .ok (.ireturn, 1) := by decide +kernel
theorem dX10_count_57 : decode cX10_count 57 = .ok (.aload_n 0, 1) := by decide +kernel
theorem dX10_count_58 : decode cX10_count 58 = .ok (.getfield 10, 3) := by decide +kernel
theorem dX10_count_61 : decode cX10_count 61 = .ok (.getfield 139, 3) := by decide +kernel
theorem dX10_count_64 : decode cX10_count 64 = .ok (.ireturn, 1) := by decide +kernel
theorem dX10_count_65 : decode cX10_count 65 = .ok (.aload_n 0, 1) := by decide +kernel
theorem dX10_count_66 : decode cX10_count 66 = .ok (.getfield 10, 3) := by decide +kernel
theorem dX10_count_69 : decode cX10_count 69 = .ok (.getfield 142, 3) := by decide +kernel
theorem dX10_count_72 : decode cX10_count 72 = .ok (.ireturn, 1) := by decide +kernel
theorem dX10_count_73 : decode cX10_count 73 = .ok (.bipush (-102), 2) := by decide +kernel
theorem dX10_count_75 : decode cX10_count 75 = .ok (.ireturn, 1) := by decide +kernel
theorem dX10_within_0 : decode cX10_within 0 = .ok (.iload_n 0, 1) := by decide +kernel
theorem dX10_within_1 : decode cX10_within 1 = .ok (.iload_n 1, 1) := by decide +kernel
theorem dX10_within_2 : decode cX10_within 2 = .ok (.if_icmp .lt 12, 3) := by decide +kernel
theorem dX10_within_5 : decode cX10_within 5 = .ok (.iload_n 0, 1) := by decide +kernel
theorem dX10_within_6 : decode cX10_within 6 = .ok (.iload_n 2, 1) := by decide +kernel
theorem dX10_within_7 : decode cX10_within 7 = .ok (.if_icmp .gt 7, 3) := by decide +kernel
theorem dX10_within_10 : decode cX10_within 10 = .ok (.iconst 1, 1) := by decide +kernel
theorem dX10_within_11 : decode cX10_within 11 = .ok (.goto 4, 3) := by decide +kernel
theorem dX10_within_14 : decode cX10_within 14 = .ok (.iconst 0, 1) := by decide +kernel
theorem dX10_within_15 : decode cX10_within 15 = .ok (.ireturn, 1) := by decide +kernel
theorem dX10_findLoaf_0 : decode cX10_findLoaf 0 = .ok (.iload_n 1, 1) := by decide +kernel
theorem dX10_findLoaf_1 : decode cX10_findLoaf 1 = .ok (.iconst 0, 1) := by decide +kernel
theorem dX10_findLoaf_2 : decode cX10_findLoaf 2 = .ok (.bipush 19, 2) := by decide +kernel
theorem dX10_findLoaf_4 : decode cX10_findLoaf 4 = .ok (.invokestatic 33, 3) := by decide +kernel
theorem dX10_findLoaf_7 : decode cX10_findLoaf 7 = .ok (.ifCond .eq 12, 3) := by decide +kernel
theorem dX10_findLoaf_10 : decode cX10_findLoaf 10 = .ok (.aload_n 0, 1) := by decide +kernel
theorem dX10_findLoaf_11 : decode cX10_findLoaf 11 = .ok (.getfield 25, 3) := by decide +kernel
theorem dX10_findLoaf_14 : decode cX10_findLoaf 14 = .ok (.iload_n 1, 1) := by decide +kernel
theorem dX10_findLoaf_15 : decode cX10_findLoaf 15 = .ok (.aaload, 1) := by decide +kernel
theorem dX10_findLoaf_16 : decode cX10_findLoaf 16 = .ok (.goto 4, 3) := by decide +kernel
theorem dX10_findLoaf_19 : decode cX10_findLoaf 19 = .ok (.aconst_null, 1) := by decide +kernel
theorem dX10_findLoaf_20 : decode cX10_findLoaf 20 = .ok (.areturn, 1) := by decide +kernel
theorem dX10_findShelf_0 : decode cX10_findShelf 0 = .ok (.iload_n 1, 1) := by decide +kernel
theorem dX10_findShelf_1 : decode cX10_findShelf 1 = .ok (.iconst 0, 1) := by decide +kernel
theorem dX10_findShelf_2 : decode cX10_findShelf 2 = .ok (.iconst 3, 1) := by decide +kernel
theorem dX10_findShelf_3 : decode cX10_findShelf 3 = .ok (.invokestatic 33, 3) := by decide +kernel
theorem dX10_findShelf_6 : decode cX10_findShelf 6 = .ok (.ifCond .eq 12, 3) := by decide +kernel
theorem dX10_findShelf_9 : decode cX10_findShelf 9 = .ok (.aload_n 0, 1) := by decide +kernel
theorem dX10_findShelf_10 : decode cX10_findShelf 10 = .ok (.getfield 18, 3) := by decide +kernel
theorem dX10_findShelf_13 : decode cX10_findShelf 13 = .ok (.iload_n 1, 1) := by decide +kernel
theorem dX10_findShelf_14 : decode cX10_findShelf 14 = .ok (.aaload, 1) := by decide +kernel
theorem dX10_findShelf_15 : decode cX10_findShelf 15 = .ok (.goto 4, 3) := by decide +kernel
theorem dX10_findShelf_18 : decode cX10_findShelf 18 = .ok (.aconst_null, 1) := by decide +kernel
theorem dX10_findShelf_19 : decode cX10_findShelf 19 = .ok (.areturn, 1) := by decide +kernel
theorem dX10_knead_0 : decode cX10_knead 0 = .ok (.iload_n 1, 1) := by decide +kernel
theorem dX10_knead_1 : decode cX10_knead 1 = .ok (.tableswitch 148 1 7 #[43, 58, 73, 88, 103, 118, 133], 43) := by decide +kernel
theorem dX10_knead_44 : decode cX10_knead 44 = .ok (.new 145, 3) := by decide +kernel
theorem dX10_knead_47 : decode cX10_knead 47 = .ok (.dup, 1) := by decide +kernel
theorem dX10_knead_48 : decode cX10_knead 48 = .ok (.aload_n 0, 1) := by decide +kernel
theorem dX10_knead_49 : decode cX10_knead 49 = .ok (.getfield 10, 3) := by decide +kernel
theorem dX10_knead_52 : decode cX10_knead 52 = .ok (.iload_n 2, 1) := by decide +kernel
theorem dX10_knead_53 : decode cX10_knead 53 = .ok (.iload_n 1, 1) := by decide +kernel
theorem dX10_knead_54 : decode cX10_knead 54 = .ok (.iload_n 3, 1) := by decide +kernel
theorem dX10_knead_55 : decode cX10_knead 55 = .ok (.invokespecial 147, 3) := by decide +kernel
theorem dX10_knead_58 : decode cX10_knead 58 = .ok (.areturn, 1) := by decide +kernel
theorem dX10_knead_59 : decode cX10_knead 59 = .ok (.new 150, 3) := by decide +kernel
theorem dX10_knead_62 : decode cX10_knead 62 = .ok (.dup, 1) := by decide +kernel
theorem dX10_knead_63 : decode cX10_knead 63 = .ok (.aload_n 0, 1) := by decide +kernel
theorem dX10_knead_64 : decode cX10_knead 64 = .ok (.getfield 10, 3) := by decide +kernel
theorem dX10_knead_67 : decode cX10_knead 67 = .ok (.iload_n 2, 1) := by decide +kernel
theorem dX10_knead_68 : decode cX10_knead 68 = .ok (.iload_n 1, 1) := by decide +kernel
theorem dX10_knead_69 : decode cX10_knead 69 = .ok (.iload_n 3, 1) := by decide +kernel
theorem dX10_knead_70 : decode cX10_knead 70 = .ok (.invokespecial 152, 3) := by decide +kernel
theorem dX10_knead_73 : decode cX10_knead 73 = .ok (.areturn, 1) := by decide +kernel
theorem dX10_knead_74 : decode cX10_knead 74 = .ok (.new 153, 3) := by decide +kernel
theorem dX10_knead_77 : decode cX10_knead 77 = .ok (.dup, 1) := by decide +kernel
theorem dX10_knead_78 : decode cX10_knead 78 = .ok (.aload_n 0, 1) := by decide +kernel
theorem dX10_knead_79 : decode cX10_knead 79 = .ok (.getfield 10, 3) := by decide +kernel
theorem dX10_knead_82 : decode cX10_knead 82 = .ok (.iload_n 2, 1) := by decide +kernel
theorem dX10_knead_83 : decode cX10_knead 83 = .ok (.iload_n 1, 1) := by decide +kernel
theorem dX10_knead_84 : decode cX10_knead 84 = .ok (.iload_n 3, 1) := by decide +kernel
theorem dX10_knead_85 : decode cX10_knead 85 = .ok (.invokespecial 155, 3) := by decide +kernel
theorem dX10_knead_88 : decode cX10_knead 88 = .ok (.areturn, 1) := by decide +kernel
theorem dX10_knead_89 : decode cX10_knead 89 = .ok (.new 156, 3) := by decide +kernel
theorem dX10_knead_92 : decode cX10_knead 92 = .ok (.dup, 1) := by decide +kernel
theorem dX10_knead_93 : decode cX10_knead 93 = .ok (.aload_n 0, 1) := by decide +kernel
theorem dX10_knead_94 : decode cX10_knead 94 = .ok (.getfield 10, 3) := by decide +kernel
theorem dX10_knead_97 : decode cX10_knead 97 = .ok (.iload_n 2, 1) := by decide +kernel
theorem dX10_knead_98 : decode cX10_knead 98 = .ok (.iload_n 1, 1) := by decide +kernel
theorem dX10_knead_99 : decode cX10_knead 99 = .ok (.iload_n 3, 1) := by decide +kernel
theorem dX10_knead_100 : decode cX10_knead 100 = .ok (.invokespecial 158, 3) := by decide +kernel
theorem dX10_knead_103 : decode cX10_knead 103 = .ok (.areturn, 1) := by decide +kernel
theorem dX10_knead_104 : decode cX10_knead 104 = .ok (.new 159, 3) := by decide +kernel
theorem dX10_knead_107 : decode cX10_knead 107 = .ok (.dup, 1) := by decide +kernel
theorem dX10_knead_108 : decode cX10_knead 108 = .ok (.aload_n 0, 1) := by decide +kernel
theorem dX10_knead_109 : decode cX10_knead 109 = .ok (.getfield 10, 3) := by decide +kernel
theorem dX10_knead_112 : decode cX10_knead 112 = .ok (.iload_n 2, 1) := by decide +kernel
theorem dX10_knead_113 : decode cX10_knead 113 = .ok (.iload_n 1, 1) := by decide +kernel
theorem dX10_knead_114 : decode cX10_knead 114 = .ok (.iload_n 3, 1) := by decide +kernel
theorem dX10_knead_115 : decode cX10_knead 115 = .ok (.invokespecial 161, 3) := by decide +kernel
theorem dX10_knead_118 : decode cX10_knead 118 = .ok (.areturn, 1) := by decide +kernel
theorem dX10_knead_119 : decode cX10_knead 119 = .ok (.new 162, 3) := by decide +kernel
theorem dX10_knead_122 : decode cX10_knead 122 = .ok (.dup, 1) := by decide +kernel
theorem dX10_knead_123 : decode cX10_knead 123 = .ok (.aload_n 0, 1) := by decide +kernel
theorem dX10_knead_124 : decode cX10_knead 124 = .ok (.getfield 10, 3) := by decide +kernel
theorem dX10_knead_127 : decode cX10_knead 127 = .ok (.iload_n 2, 1) := by decide +kernel
theorem dX10_knead_128 : decode cX10_knead 128 = .ok (.iload_n 1, 1) := by decide +kernel
theorem dX10_knead_129 : decode cX10_knead 129 = .ok (.iload_n 3, 1) := by decide +kernel
theorem dX10_knead_130 : decode cX10_knead 130 = .ok (.invokespecial 164, 3) := by decide +kernel
theorem dX10_knead_133 : decode cX10_knead 133 = .ok (.areturn, 1) := by decide +kernel
theorem dX10_knead_134 : decode cX10_knead 134 = .ok (.new 165, 3) := by decide +kernel
theorem dX10_knead_137 : decode cX10_knead 137 = .ok (.dup, 1) := by decide +kernel
theorem dX10_knead_138 : decode cX10_knead 138 = .ok (.aload_n 0, 1) := by decide +kernel
theorem dX10_knead_139 : decode cX10_knead 139 = .ok (.getfield 10, 3) := by decide +kernel
theorem dX10_knead_142 : decode cX10_knead 142 = .ok (.iload_n 2, 1) := by decide +kernel
theorem dX10_knead_143 : decode cX10_knead 143 = .ok (.iload_n 1, 1) := by decide +kernel
theorem dX10_knead_144 : decode cX10_knead 144 = .ok (.iload_n 3, 1) := by decide +kernel
theorem dX10_knead_145 : decode cX10_knead 145 = .ok (.invokespecial 167, 3) := by decide +kernel
theorem dX10_knead_148 : decode cX10_knead 148 = .ok (.areturn, 1) := by decide +kernel
theorem dX10_knead_149 : decode cX10_knead 149 = .ok (.new 23, 3) := by decide +kernel
theorem dX10_knead_152 : decode cX10_knead 152 = .ok (.dup, 1) := by decide +kernel
theorem dX10_knead_153 : decode cX10_knead 153 = .ok (.aload_n 0, 1) := by decide +kernel
theorem dX10_knead_154 : decode cX10_knead 154 = .ok (.getfield 10, 3) := by decide +kernel
theorem dX10_knead_157 : decode cX10_knead 157 = .ok (.iload_n 2, 1) := by decide +kernel
theorem dX10_knead_158 : decode cX10_knead 158 = .ok (.iload_n 1, 1) := by decide +kernel
theorem dX10_knead_159 : decode cX10_knead 159 = .ok (.iload_n 3, 1) := by decide +kernel
theorem dX10_knead_160 : decode cX10_knead 160 = .ok (.invokespecial 168, 3) := by decide +kernel
theorem dX10_knead_163 : decode cX10_knead 163 = .ok (.areturn, 1) := by decide +kernel
theorem dX10_placesOfLoaf_0 : decode cX10_placesOfLoaf 0 = .ok (.iconst 0, 1) := by decide +kernel
theorem dX10_placesOfLoaf_1 : decode cX10_placesOfLoaf 1 = .ok (.istore_n 2, 1) := by decide +kernel
theorem dX10_placesOfLoaf_2 : decode cX10_placesOfLoaf 2 = .ok (.iconst 0, 1) := by decide +kernel
theorem dX10_placesOfLoaf_3 : decode cX10_placesOfLoaf 3 = .ok (.istore_n 3, 1) := by decide +kernel
theorem dX10_placesOfLoaf_4 : decode cX10_placesOfLoaf 4 = .ok (.iload_n 3, 1) := by decide +kernel
theorem dX10_placesOfLoaf_5 : decode cX10_placesOfLoaf 5 = .ok (.iconst 4, 1) := by decide +kernel
theorem dX10_placesOfLoaf_6 : decode cX10_placesOfLoaf 6 = .ok (.if_icmp .ge 39, 3) := by decide +kernel
theorem dX10_placesOfLoaf_9 : decode cX10_placesOfLoaf 9 = .ok (.iconst 0, 1) := by decide +kernel
theorem dX10_placesOfLoaf_10 : decode cX10_placesOfLoaf 10 = .ok (.istore 4, 2) := by decide +kernel
theorem dX10_placesOfLoaf_12 : decode cX10_placesOfLoaf 12 = .ok (.iload 4, 2) := by decide +kernel
theorem dX10_placesOfLoaf_14 : decode cX10_placesOfLoaf 14 = .ok (.bipush 8, 2) := by decide +kernel
theorem dX10_placesOfLoaf_16 : decode cX10_placesOfLoaf 16 = .ok (.if_icmp .ge 23, 3) := by decide +kernel
theorem dX10_placesOfLoaf_19 : decode cX10_placesOfLoaf 19 = .ok (.aload_n 0, 1) := by decide +kernel
theorem dX10_placesOfLoaf_20 : decode cX10_placesOfLoaf 20 = .ok (.iload_n 3, 1) := by decide +kernel
theorem dX10_placesOfLoaf_21 : decode cX10_placesOfLoaf 21 = .ok (.iload 4, 2) := by decide +kernel
theorem dX10_placesOfLoaf_23 : decode cX10_placesOfLoaf 23 = .ok (.invokevirtual 169, 3) := by decide +kernel
theorem dX10_placesOfLoaf_26 : decode cX10_placesOfLoaf 26 = .ok (.iload_n 1, 1) := by decide +kernel
theorem dX10_placesOfLoaf_27 : decode cX10_placesOfLoaf 27 = .ok (.if_icmp .ne 6, 3) := by decide +kernel
theorem dX10_placesOfLoaf_30 : decode cX10_placesOfLoaf 30 = .ok (.iinc 2 1, 3) := by decide +kernel
theorem dX10_placesOfLoaf_33 : decode cX10_placesOfLoaf 33 = .ok (.iinc 4 1, 3) := by decide +kernel
theorem dX10_placesOfLoaf_36 : decode cX10_placesOfLoaf 36 = .ok (.goto (-24), 3) := by decide +kernel
theorem dX10_placesOfLoaf_39 : decode cX10_placesOfLoaf 39 = .ok (.iinc 3 1, 3) := by decide +kernel
theorem dX10_placesOfLoaf_42 : decode cX10_placesOfLoaf 42 = .ok (.goto (-38), 3) := by decide +kernel
theorem dX10_placesOfLoaf_45 : decode cX10_placesOfLoaf 45 = .ok (.iload_n 2, 1) := by decide +kernel
theorem dX10_placesOfLoaf_46 : decode cX10_placesOfLoaf 46 = .ok (.ireturn, 1) := by decide +kernel
theorem dX10_bakeShelf_0 : decode cX10_bakeShelf 0 = .ok (.iconst 0, 1) := by decide +kernel
theorem dX10_bakeShelf_1 : decode cX10_bakeShelf 1 = .ok (.istore_n 3, 1) := by decide +kernel
theorem dX10_bakeShelf_2 : decode cX10_bakeShelf 2 = .ok (.iconst 0, 1) := by decide +kernel
theorem dX10_bakeShelf_3 : decode cX10_bakeShelf 3 = .ok (.istore 4, 2) := by decide +kernel
theorem dX10_bakeShelf_5 : decode cX10_bakeShelf 5 = .ok (.iload 4, 2) := by decide +kernel
theorem dX10_bakeShelf_7 : decode cX10_bakeShelf 7 = .ok (.bipush 8, 2) := by decide +kernel
theorem dX10_bakeShelf_9 : decode cX10_bakeShelf 9 = .ok (.if_icmp .ge 39, 3) := by decide +kernel
theorem dX10_bakeShelf_12 : decode cX10_bakeShelf 12 = .ok (.aload_n 0, 1) := by decide +kernel
theorem dX10_bakeShelf_13 : decode cX10_bakeShelf 13 = .ok (.aload_n 0, 1) := by decide +kernel
theorem dX10_bakeShelf_14 : decode cX10_bakeShelf 14 = .ok (.iload_n 1, 1) := by decide +kernel
theorem dX10_bakeShelf_15 : decode cX10_bakeShelf 15 = .ok (.iload 4, 2) := by decide +kernel
theorem dX10_bakeShelf_17 : decode cX10_bakeShelf 17 = .ok (.invokevirtual 169, 3) := by decide +kernel
theorem dX10_bakeShelf_20 : decode cX10_bakeShelf 20 = .ok (.invokevirtual 63, 3) := by decide +kernel
theorem dX10_bakeShelf_23 : decode cX10_bakeShelf 23 = .ok (.astore 5, 2) := by decide +kernel
theorem dX10_bakeShelf_25 : decode cX10_bakeShelf 25 = .ok (.aload 5, 2) := by decide +kernel
theorem dX10_bakeShelf_27 : decode cX10_bakeShelf 27 = .ok (.ifnull 15, 3) := by decide +kernel
theorem dX10_bakeShelf_30 : decode cX10_bakeShelf 30 = .ok (.aload 5, 2) := by decide +kernel
theorem dX10_bakeShelf_32 : decode cX10_bakeShelf 32 = .ok (.iload_n 2, 1) := by decide +kernel
theorem dX10_bakeShelf_33 : decode cX10_bakeShelf 33 = .ok (.invokevirtual 84, 3) := by decide +kernel
theorem dX10_bakeShelf_36 : decode cX10_bakeShelf 36 = .ok (.ifCond .eq 6, 3) := by decide +kernel
theorem dX10_bakeShelf_39 : decode cX10_bakeShelf 39 = .ok (.iinc 3 1, 3) := by decide +kernel
theorem dX10_bakeShelf_42 : decode cX10_bakeShelf 42 = .ok (.iinc 4 1, 3) := by decide +kernel
theorem dX10_bakeShelf_45 : decode cX10_bakeShelf 45 = .ok (.goto (-40), 3) := by decide +kernel
theorem dX10_bakeShelf_48 : decode cX10_bakeShelf 48 = .ok (.iload_n 3, 1) := by decide +kernel
theorem dX10_bakeShelf_49 : decode cX10_bakeShelf 49 = .ok (.ireturn, 1) := by decide +kernel
theorem dX10_fallsAtRest_0 : decode cX10_fallsAtRest 0 = .ok (.aload_n 0, 1) := by decide +kernel
theorem dX10_fallsAtRest_1 : decode cX10_fallsAtRest 1 = .ok (.iload_n 1, 1) := by decide +kernel
theorem dX10_fallsAtRest_2 : decode cX10_fallsAtRest 2 = .ok (.invokevirtual 67, 3) := by decide +kernel
theorem dX10_fallsAtRest_5 : decode cX10_fallsAtRest 5 = .ok (.pop, 1) := by decide +kernel
theorem dX10_fallsAtRest_6 : decode cX10_fallsAtRest 6 = .ok (.iconst 0, 1) := by decide +kernel
theorem dX10_fallsAtRest_7 : decode cX10_fallsAtRest 7 = .ok (.ireturn, 1) := by decide +kernel
theorem dX10_fallsAtRest_8 : decode cX10_fallsAtRest 8 = .ok (.astore_n 2, 1) := by decide +kernel
theorem dX10_fallsAtRest_9 : decode cX10_fallsAtRest 9 = .ok (.iconst 1, 1) := by decide +kernel
theorem dX10_fallsAtRest_10 : decode cX10_fallsAtRest 10 = .ok (.ireturn, 1) := by decide +kernel
theorem dX10_isSold_0 : decode cX10_isSold 0 = .ok (.aload_n 0, 1) := by decide +kernel
theorem dX10_isSold_1 : decode cX10_isSold 1 = .ok (.getfield 115, 3) := by decide +kernel
theorem dX10_isSold_4 : decode cX10_isSold 4 = .ok (.iconst 4, 1) := by decide +kernel
theorem dX10_isSold_5 : decode cX10_isSold 5 = .ok (.bipush 7, 2) := by decide +kernel
theorem dX10_isSold_7 : decode cX10_isSold 7 = .ok (.invokestatic 33, 3) := by decide +kernel
theorem dX10_isSold_10 : decode cX10_isSold 10 = .ok (.ireturn, 1) := by decide +kernel
theorem dX10_priceOf_0 : decode cX10_priceOf 0 = .ok (.aload_n 0, 1) := by decide +kernel
theorem dX10_priceOf_1 : decode cX10_priceOf 1 = .ok (.invokevirtual 88, 3) := by decide +kernel
theorem dX10_priceOf_4 : decode cX10_priceOf 4 = .ok (.istore_n 1, 1) := by decide +kernel
theorem dX10_priceOf_5 : decode cX10_priceOf 5 = .ok (.aload_n 0, 1) := by decide +kernel
theorem dX10_priceOf_6 : decode cX10_priceOf 6 = .ok (.getfield 115, 3) := by decide +kernel
theorem dX10_priceOf_9 : decode cX10_priceOf 9 = .ok (.iconst 5, 1) := by decide +kernel
theorem dX10_priceOf_10 : decode cX10_priceOf 10 = .ok (.if_icmp .ne 10, 3) := by decide +kernel
theorem dX10_priceOf_13 : decode cX10_priceOf 13 = .ok (.iload_n 1, 1) := by decide +kernel
theorem dX10_priceOf_14 : decode cX10_priceOf 14 = .ok (.bipush 7, 2) := by decide +kernel
theorem dX10_priceOf_16 : decode cX10_priceOf 16 = .ok (.iadd, 1) := by decide +kernel
theorem dX10_priceOf_17 : decode cX10_priceOf 17 = .ok (.goto 9, 3) := by decide +kernel
theorem dX10_priceOf_20 : decode cX10_priceOf 20 = .ok (.iload_n 1, 1) := by decide +kernel
theorem dX10_priceOf_21 : decode cX10_priceOf 21 = .ok (.iload_n 1, 1) := by decide +kernel
theorem dX10_priceOf_22 : decode cX10_priceOf 22 = .ok (.bipush 10, 2) := by decide +kernel
theorem dX10_priceOf_24 : decode cX10_priceOf 24 = .ok (.idiv, 1) := by decide +kernel
theorem dX10_priceOf_25 : decode cX10_priceOf 25 = .ok (.iadd, 1) := by decide +kernel
theorem dX10_priceOf_26 : decode cX10_priceOf 26 = .ok (.ireturn, 1) := by decide +kernel
