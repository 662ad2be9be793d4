theorem dJ6_bitCount_0f7a4_0 : decode cJ6_bitCount_0f7a4 0 = .ok (.iload_n 0, 1) := by decide +kernel
theorem dJ6_bitCount_0f7a4_1 : decode cJ6_bitCount_0f7a4 1 = .ok (.iload_n 0, 1) := by decide +kernel
theorem dJ6_bitCount_0f7a4_2 : decode cJ6_bitCount_0f7a4 2 = .ok (.iconst 1, 1) := by decide +kernel
theorem dJ6_bitCount_0f7a4_3 : decode cJ6_bitCount_0f7a4 3 = .ok (.iushr, 1) := by decide +kernel
theorem dJ6_bitCount_0f7a4_4 : decode cJ6_bitCount_0f7a4 4 = .ok (.ldc_w 265, 3) := by decide +kernel
theorem dJ6_bitCount_0f7a4_7 : decode cJ6_bitCount_0f7a4 7 = .ok (.iand, 1) := by decide +kernel
theorem dJ6_bitCount_0f7a4_8 : decode cJ6_bitCount_0f7a4 8 = .ok (.isub, 1) := by decide +kernel
theorem dJ6_bitCount_0f7a4_9 : decode cJ6_bitCount_0f7a4 9 = .ok (.istore_n 0, 1) := by decide +kernel
theorem dJ6_bitCount_0f7a4_10 : decode cJ6_bitCount_0f7a4 10 = .ok (.iload_n 0, 1) := by decide +kernel
theorem dJ6_bitCount_0f7a4_11 : decode cJ6_bitCount_0f7a4 11 = .ok (.ldc_w 266, 3) := by decide +kernel
theorem dJ6_bitCount_0f7a4_14 : decode cJ6_bitCount_0f7a4 14 = .ok (.iand, 1) := by decide +kernel
theorem dJ6_bitCount_0f7a4_15 : decode cJ6_bitCount_0f7a4 15 = .ok (.iload_n 0, 1) := by decide +kernel
theorem dJ6_bitCount_0f7a4_16 : decode cJ6_bitCount_0f7a4 16 = .ok (.iconst 2, 1) := by decide +kernel
theorem dJ6_bitCount_0f7a4_17 : decode cJ6_bitCount_0f7a4 17 = .ok (.iushr, 1) := by decide +kernel
theorem dJ6_bitCount_0f7a4_18 : decode cJ6_bitCount_0f7a4 18 = .ok (.ldc_w 266, 3) := by decide +kernel
theorem dJ6_bitCount_0f7a4_21 : decode cJ6_bitCount_0f7a4 21 = .ok (.iand, 1) := by decide +kernel
theorem dJ6_bitCount_0f7a4_22 : decode cJ6_bitCount_0f7a4 22 = .ok (.iadd, 1) := by decide +kernel
theorem dJ6_bitCount_0f7a4_23 : decode cJ6_bitCount_0f7a4 23 = .ok (.istore_n 0, 1) := by decide +kernel
theorem dJ6_bitCount_0f7a4_24 : decode cJ6_bitCount_0f7a4 24 = .ok (.iload_n 0, 1) := by decide +kernel
theorem dJ6_bitCount_0f7a4_25 : decode cJ6_bitCount_0f7a4 25 = .ok (.iload_n 0, 1) := by decide +kernel
theorem dJ6_bitCount_0f7a4_26 : decode cJ6_bitCount_0f7a4 26 = .ok (.iconst 4, 1) := by decide +kernel
theorem dJ6_bitCount_0f7a4_27 : decode cJ6_bitCount_0f7a4 27 = .ok (.iushr, 1) := by decide +kernel
theorem dJ6_bitCount_0f7a4_28 : decode cJ6_bitCount_0f7a4 28 = .ok (.iadd, 1) := by decide +kernel
theorem dJ6_bitCount_0f7a4_29 : decode cJ6_bitCount_0f7a4 29 = .ok (.ldc_w 267, 3) := by decide +kernel
theorem dJ6_bitCount_0f7a4_32 : decode cJ6_bitCount_0f7a4 32 = .ok (.iand, 1) := by decide +kernel
theorem dJ6_bitCount_0f7a4_33 : decode cJ6_bitCount_0f7a4 33 = .ok (.istore_n 0, 1) := by decide +kernel
theorem dJ6_bitCount_0f7a4_34 : decode cJ6_bitCount_0f7a4 34 = .ok (.iload_n 0, 1) := by decide +kernel
theorem dJ6_bitCount_0f7a4_35 : decode cJ6_bitCount_0f7a4 35 = .ok (.iload_n 0, 1) := by decide +kernel
theorem dJ6_bitCount_0f7a4_36 : decode cJ6_bitCount_0f7a4 36 = .ok (.bipush 8, 2) := by decide +kernel
theorem dJ6_bitCount_0f7a4_38 : decode cJ6_bitCount_0f7a4 38 = .ok (.iushr, 1) := by decide +kernel
theorem dJ6_bitCount_0f7a4_39 : decode cJ6_bitCount_0f7a4 39 = .ok (.iadd, 1) := by decide +kernel
theorem dJ6_bitCount_0f7a4_40 : decode cJ6_bitCount_0f7a4 40 = .ok (.istore_n 0, 1) := by decide +kernel
theorem dJ6_bitCount_0f7a4_41 : decode cJ6_bitCount_0f7a4 41 = .ok (.iload_n 0, 1) := by decide +kernel
theorem dJ6_bitCount_0f7a4_42 : decode cJ6_bitCount_0f7a4 42 = .ok (.iload_n 0, 1) := by decide +kernel
theorem dJ6_bitCount_0f7a4_43 : decode cJ6_bitCount_0f7a4 43 = .ok (.bipush 16, 2) := by decide +kernel
theorem dJ6_bitCount_0f7a4_45 : decode cJ6_bitCount_0f7a4 45 = .ok (.iushr, 1) := by decide +kernel
theorem dJ6_bitCount_0f7a4_46 : decode cJ6_bitCount_0f7a4 46 = .ok (.iadd, 1) := by decide +kernel
theorem dJ6_bitCount_0f7a4_47 : decode cJ6_bitCount_0f7a4 47 = .ok (.istore_n 0, 1) := by decide +kernel
theorem dJ6_bitCount_0f7a4_48 : decode cJ6_bitCount_0f7a4 48 = .ok (.iload_n 0, 1) := by decide +kernel
theorem dJ6_bitCount_0f7a4_49 : decode cJ6_bitCount_0f7a4 49 = .ok (.bipush 63, 2) := by decide +kernel
theorem dJ6_bitCount_0f7a4_51 : decode cJ6_bitCount_0f7a4 51 = .ok (.iand, 1) := by decide +kernel
theorem dJ6_bitCount_0f7a4_52 : decode cJ6_bitCount_0f7a4 52 = .ok (.ireturn, 1) := by decide +kernel
theorem dJ9_floorMod_7cf53_0 : decode cJ9_floorMod_7cf53 0 = .ok (.iload_n 0, 1) := by decide +kernel
theorem dJ9_floorMod_7cf53_1 : decode cJ9_floorMod_7cf53 1 = .ok (.iload_n 1, 1) := by decide +kernel
theorem dJ9_floorMod_7cf53_2 : decode cJ9_floorMod_7cf53 2 = .ok (.irem, 1) := by decide +kernel
theorem dJ9_floorMod_7cf53_3 : decode cJ9_floorMod_7cf53 3 = .ok (.istore_n 2, 1) := by decide +kernel
theorem dJ9_floorMod_7cf53_4 : decode cJ9_floorMod_7cf53 4 = .ok (.iload_n 0, 1) := by decide +kernel
theorem dJ9_floorMod_7cf53_5 : decode cJ9_floorMod_7cf53 5 = .ok (.iload_n 1, 1) := by decide +kernel
theorem dJ9_floorMod_7cf53_6 : decode cJ9_floorMod_7cf53 6 = .ok (.ixor, 1) := by decide +kernel
theorem dJ9_floorMod_7cf53_7 : decode cJ9_floorMod_7cf53 7 = .ok (.ifCond .ge 11, 3) := by decide +kernel
theorem dJ9_floorMod_7cf53_10 : decode cJ9_floorMod_7cf53 10 = .ok (.iload_n 2, 1) := by decide +kernel
theorem dJ9_floorMod_7cf53_11 : decode cJ9_floorMod_7cf53 11 = .ok (.ifCond .eq 7, 3) := by decide +kernel
theorem dJ9_floorMod_7cf53_14 : decode cJ9_floorMod_7cf53 14 = .ok (.iload_n 2, 1) := by decide +kernel
theorem dJ9_floorMod_7cf53_15 : decode cJ9_floorMod_7cf53 15 = .ok (.iload_n 1, 1) := by decide +kernel
theorem dJ9_floorMod_7cf53_16 : decode cJ9_floorMod_7cf53 16 = .ok (.iadd, 1) := by decide +kernel
theorem dJ9_floorMod_7cf53_17 : decode cJ9_floorMod_7cf53 17 = .ok (.ireturn, 1) := by decide +kernel
theorem dJ9_floorMod_7cf53_18 : decode cJ9_floorMod_7cf53 18 = .ok (.iload_n 2, 1) := by decide +kernel
theorem dJ9_floorMod_7cf53_19 : decode cJ9_floorMod_7cf53 19 = .ok (.ireturn, 1) := by decide +kernel
theorem dJ9_max_7cf53_0 : decode cJ9_max_7cf53 0 = .ok (.iload_n 0, 1) := by decide +kernel
theorem dJ9_max_7cf53_1 : decode cJ9_max_7cf53 1 = .ok (.iload_n 1, 1) := by decide +kernel
theorem dJ9_max_7cf53_2 : decode cJ9_max_7cf53 2 = .ok (.if_icmp .lt 7, 3) := by decide +kernel
theorem dJ9_max_7cf53_5 : decode cJ9_max_7cf53 5 = .ok (.iload_n 0, 1) := by decide +kernel
theorem dJ9_max_7cf53_6 : decode cJ9_max_7cf53 6 = .ok (.goto 4, 3) := by decide +kernel
theorem dJ9_max_7cf53_9 : decode cJ9_max_7cf53 9 = .ok (.iload_n 1, 1) := by decide +kernel
theorem dJ9_max_7cf53_10 : decode cJ9_max_7cf53 10 = .ok (.ireturn, 1) := by decide +kernel
theorem dJ9_min_7cf53_0 : decode cJ9_min_7cf53 0 = .ok (.iload_n 0, 1) := by decide +kernel
theorem dJ9_min_7cf53_1 : decode cJ9_min_7cf53 1 = .ok (.iload_n 1, 1) := by decide +kernel
theorem dJ9_min_7cf53_2 : decode cJ9_min_7cf53 2 = .ok (.if_icmp .gt 7, 3) := by decide +kernel
theorem dJ9_min_7cf53_5 : decode cJ9_min_7cf53 5 = .ok (.iload_n 0, 1) := by decide +kernel
theorem dJ9_min_7cf53_6 : decode cJ9_min_7cf53 6 = .ok (.goto 4, 3) := by decide +kernel
theorem dJ9_min_7cf53_9 : decode cJ9_min_7cf53 9 = .ok (.iload_n 1, 1) := by decide +kernel
theorem dJ9_min_7cf53_10 : decode cJ9_min_7cf53 10 = .ok (.ireturn, 1) := by decide +kernel
theorem dX0_init_0 : decode cX0_init 0 = .ok (.aload_n 0, 1) := by decide +kernel
theorem dX0_init_1 : decode cX0_init 1 = .ok (.invokespecial 3, 3) := by decide +kernel
theorem dX0_init_4 : decode cX0_init 4 = .ok (.aload_n 0, 1) := by decide +kernel
theorem dX0_init_5 : decode cX0_init 5 = .ok (.iload_n 1, 1) := by decide +kernel
theorem dX0_init_6 : decode cX0_init 6 = .ok (.putfield 9, 3) := by decide +kernel
theorem dX0_init_9 : decode cX0_init 9 = .ok (.aload_n 0, 1) := by decide +kernel
theorem dX0_init_10 : decode cX0_init 10 = .ok (.new 15, 3) := by decide +kernel
theorem dX0_init_13 : decode cX0_init 13 = .ok (.dup, 1) := by decide +kernel
theorem dX0_init_14 : decode cX0_init 14 = .ok (.aload_n 2, 1) := by decide +kernel
theorem dX0_init_15 : decode cX0_init 15 = .ok (.invokespecial 17, 3) := by decide +kernel
theorem dX0_init_18 : decode cX0_init 18 = .ok (.putfield 20, 3) := by decide +kernel
theorem dX0_init_21 : decode cX0_init 21 = .ok (.aload_n 0, 1) := by decide +kernel
theorem dX0_init_22 : decode cX0_init 22 = .ok (.new 24, 3) := by decide +kernel
theorem dX0_init_25 : decode cX0_init 25 = .ok (.dup, 1) := by decide +kernel
theorem dX0_init_26 : decode cX0_init 26 = .ok (.invokespecial 26, 3) := by decide +kernel
theorem dX0_init_29 : decode cX0_init 29 = .ok (.putfield 27, 3) := by decide +kernel
theorem dX0_init_32 : decode cX0_init 32 = .ok (.aload_n 0, 1) := by decide +kernel
theorem dX0_init_33 : decode cX0_init 33 = .ok (.iconst 0, 1) := by decide +kernel
theorem dX0_init_34 : decode cX0_init 34 = .ok (.putfield 31, 3) := by decide +kernel
theorem dX0_init_37 : decode cX0_init 37 = .ok (.aload_n 0, 1) := by decide +kernel
theorem dX0_init_38 : decode cX0_init 38 = .ok (.iconst 0, 1) := by decide +kernel
theorem dX0_init_39 : decode cX0_init 39 = .ok (.putfield 34, 3) := by decide +kernel
theorem dX0_init_42 : decode cX0_init 42 = .ok (.aload_n 0, 1) := by decide +kernel
theorem dX0_init_43 : decode cX0_init 43 = .ok (.iconst 1, 1) := by decide +kernel
theorem dX0_init_44 : decode cX0_init 44 = .ok (.putfield 37, 3) := by decide +kernel
theorem dX0_init_47 : decode cX0_init 47 = .ok (.aload_n 0, 1) := by decide +kernel
theorem dX0_init_48 : decode cX0_init 48 = .ok (.iconst 0, 1) := by decide +kernel
theorem dX0_init_49 : decode cX0_init 49 = .ok (.putfield 40, 3) := by decide +kernel
theorem dX0_init_52 : decode cX0_init 52 = .ok (.aload_n 0, 1) := by decide +kernel
theorem dX0_init_53 : decode cX0_init 53 = .ok (.iconst 0, 1) := by decide +kernel
theorem dX0_init_54 : decode cX0_init 54 = .ok (.putfield 43, 3) := by decide +kernel
theorem dX0_init_57 : decode cX0_init 57 = .ok (.aload_n 0, 1) := by decide +kernel
theorem dX0_init_58 : decode cX0_init 58 = .ok (.iconst 0, 1) := by decide +kernel
theorem dX0_init_59 : decode cX0_init 59 = .ok (.putfield 46, 3) := by decide +kernel
theorem dX0_init_62 : decode cX0_init 62 = .ok (.return_, 1) := by decide +kernel
theorem dX0_fact_0 : decode cX0_fact 0 = .ok (.iload_n 1, 1) := by decide +kernel
theorem dX0_fact_1 : decode cX0_fact 1 = .ok (.tableswitch 83 0 6 #[43, 48, 58, 63, 68, 73, 78], 43) := by decide +kernel
theorem dX0_fact_44 : decode cX0_fact 44 = .ok (.aload_n 0, 1) := by decide +kernel
theorem dX0_fact_45 : decode cX0_fact 45 = .ok (.getfield 31, 3) := by decide +kernel
theorem dX0_fact_48 : decode cX0_fact 48 = .ok (.ireturn, 1) := by decide +kernel
theorem dX0_fact_49 : decode cX0_fact 49 = .ok (.aload_n 0, 1) := by decide +kernel
theorem dX0_fact_50 : decode cX0_fact 50 = .ok (.getfield 34, 3) := by decide +kernel
theorem dX0_fact_53 : decode cX0_fact 53 = .ok (.bipush 99, 2) := by decide +kernel
theorem dX0_fact_55 : decode cX0_fact 55 = .ok (.invokestatic 49, 3) := by decide +kernel
theorem dX0_fact_58 : decode cX0_fact 58 = .ok (.ireturn, 1) := by decide +kernel
theorem dX0_fact_59 : decode cX0_fact 59 = .ok (.aload_n 0, 1) := by decide +kernel
theorem dX0_fact_60 : decode cX0_fact 60 = .ok (.getfield 37, 3) := by decide +kernel
theorem dX0_fact_63 : decode cX0_fact 63 = .ok (.ireturn, 1) := by decide +kernel
theorem dX0_fact_64 : decode cX0_fact 64 = .ok (.aload_n 0, 1) := by decide +kernel
theorem dX0_fact_65 : decode cX0_fact 65 = .ok (.invokevirtual 55, 3) := by decide +kernel
theorem dX0_fact_68 : decode cX0_fact 68 = .ok (.ireturn, 1) := by decide +kernel
theorem dX0_fact_69 : decode cX0_fact 69 = .ok (.aload_n 0, 1) := by decide +kernel
theorem dX0_fact_70 : decode cX0_fact 70 = .ok (.getfield 43, 3) := by decide +kernel
theorem dX0_fact_73 : decode cX0_fact 73 = .ok (.ireturn, 1) := by decide +kernel
theorem dX0_fact_74 : decode cX0_fact 74 = .ok (.aload_n 0, 1) := by decide +kernel
theorem dX0_fact_75 : decode cX0_fact 75 = .ok (.getfield 40, 3) := by decide +kernel
theorem dX0_fact_78 : decode cX0_fact 78 = .ok (.ireturn, 1) := by decide +kernel
theorem dX0_fact_79 : decode cX0_fact 79 = .ok (.aload_n 0, 1) := by decide +kernel
theorem dX0_fact_80 : decode cX0_fact 80 = .ok (.getfield 46, 3) := by decide +kernel
theorem dX0_fact_83 : decode cX0_fact 83 = .ok (.ireturn, 1) := by decide +kernel
theorem dX0_fact_84 : decode cX0_fact 84 = .ok (.bipush (-2), 2) := by decide +kernel
theorem dX0_fact_86 : decode cX0_fact 86 = .ok (.ireturn, 1) := by decide +kernel
theorem dX0_orders_0 : decode cX0_orders 0 = .ok (.aload_n 0, 1) := by decide +kernel
theorem dX0_orders_1 : decode cX0_orders 1 = .ok (.getfield 46, 3) := by decide +kernel
theorem dX0_orders_4 : decode cX0_orders 4 = .ok (.iconst 1, 1) := by decide +kernel
theorem dX0_orders_5 : decode cX0_orders 5 = .ok (.if_icmp .eq 22, 3) := by decide +kernel
theorem dX0_orders_8 : decode cX0_orders 8 = .ok (.aload_n 0, 1) := by decide +kernel
theorem dX0_orders_9 : decode cX0_orders 9 = .ok (.getfield 43, 3) := by decide +kernel
theorem dX0_orders_12 : decode cX0_orders 12 = .ok (.ifCond .ne 15, 3) := by decide +kernel
theorem dX0_orders_15 : decode cX0_orders 15 = .ok (.aload_n 0, 1) := by decide +kernel
theorem dX0_orders_16 : decode cX0_orders 16 = .ok (.getfield 31, 3) := by decide +kernel
theorem dX0_orders_19 : decode cX0_orders 19 = .ok (.bipush 7, 2) := by decide +kernel
theorem dX0_orders_21 : decode cX0_orders 21 = .ok (.invokestatic 59, 3) := by decide +kernel
theorem dX0_orders_24 : decode cX0_orders 24 = .ok (.ifCond .eq 5, 3) := by decide +kernel
theorem dX0_orders_27 : decode cX0_orders 27 = .ok (.iconst 0, 1) := by decide +kernel
theorem dX0_orders_28 : decode cX0_orders 28 = .ok (.ireturn, 1) := by decide +kernel
theorem dX0_orders_29 : decode cX0_orders 29 = .ok (.getstatic 63, 3) := by decide +kernel
theorem dX0_orders_32 : decode cX0_orders 32 = .ok (.aload_n 0, 1) := by decide +kernel
theorem dX0_orders_33 : decode cX0_orders 33 = .ok (.getfield 31, 3) := by decide +kernel
theorem dX0_orders_36 : decode cX0_orders 36 = .ok (.iaload, 1) := by decide +kernel
theorem dX0_orders_37 : decode cX0_orders 37 = .ok (.istore_n 1, 1) := by decide +kernel
theorem dX0_orders_38 : decode cX0_orders 38 = .ok (.aload_n 0, 1) := by decide +kernel
theorem dX0_orders_39 : decode cX0_orders 39 = .ok (.getfield 31, 3) := by decide +kernel
theorem dX0_orders_42 : decode cX0_orders 42 = .ok (.iconst 3, 1) := by decide +kernel
theorem dX0_orders_43 : decode cX0_orders 43 = .ok (.if_icmp .ne 21, 3) := by decide +kernel
theorem dX0_orders_46 : decode cX0_orders 46 = .ok (.iload_n 1, 1) := by decide +kernel
theorem dX0_orders_47 : decode cX0_orders 47 = .ok (.iconst 1, 1) := by decide +kernel
theorem dX0_orders_48 : decode cX0_orders 48 = .ok (.aload_n 0, 1) := by decide +kernel
theorem dX0_orders_49 : decode cX0_orders 49 = .ok (.getfield 37, 3) := by decide +kernel
theorem dX0_orders_52 : decode cX0_orders 52 = .ok (.iconst 1, 1) := by decide +kernel
theorem dX0_orders_53 : decode cX0_orders 53 = .ok (.if_icmp .ne 7, 3) := by decide +kernel
theorem dX0_orders_56 : decode cX0_orders 56 = .ok (.iconst 3, 1) := by decide +kernel
theorem dX0_orders_57 : decode cX0_orders 57 = .ok (.goto 4, 3) := by decide +kernel
theorem dX0_orders_60 : decode cX0_orders 60 = .ok (.iconst 4, 1) := by decide +kernel
theorem dX0_orders_61 : decode cX0_orders 61 = .ok (.ishl, 1) := by decide +kernel
theorem dX0_orders_62 : decode cX0_orders 62 = .ok (.ior, 1) := by decide +kernel
theorem dX0_orders_63 : decode cX0_orders 63 = .ok (.istore_n 1, 1) := by decide +kernel
theorem dX0_orders_64 : decode cX0_orders 64 = .ok (.iload_n 1, 1) := by decide +kernel
theorem dX0_orders_65 : decode cX0_orders 65 = .ok (.ireturn, 1) := by decide +kernel
theorem dX0_underWay_0 : decode cX0_underWay 0 = .ok (.aload_n 0, 1) := by decide +kernel
theorem dX0_underWay_1 : decode cX0_underWay 1 = .ok (.getfield 46, 3) := by decide +kernel
theorem dX0_underWay_4 : decode cX0_underWay 4 = .ok (.ifCond .ne 37, 3) := by decide +kernel
theorem dX0_underWay_7 : decode cX0_underWay 7 = .ok (.aload_n 0, 1) := by decide +kernel
theorem dX0_underWay_8 : decode cX0_underWay 8 = .ok (.getfield 43, 3) := by decide +kernel
theorem dX0_underWay_11 : decode cX0_underWay 11 = .ok (.ifCond .ne 30, 3) := by decide +kernel
theorem dX0_underWay_14 : decode cX0_underWay 14 = .ok (.aload_n 0, 1) := by decide +kernel
theorem dX0_underWay_15 : decode cX0_underWay 15 = .ok (.getfield 31, 3) := by decide +kernel
theorem dX0_underWay_18 : decode cX0_underWay 18 = .ok (.ifCond .ne 19, 3) := by decide +kernel
theorem dX0_underWay_21 : decode cX0_underWay 21 = .ok (.aload_n 0, 1) := by decide +kernel
theorem dX0_underWay_22 : decode cX0_underWay 22 = .ok (.getfield 20, 3) := by decide +kernel
theorem dX0_underWay_25 : decode cX0_underWay 25 = .ok (.getfield 67, 3) := by decide +kernel
theorem dX0_underWay_28 : decode cX0_underWay 28 = .ok (.iconst 0, 1) := by decide +kernel
theorem dX0_underWay_29 : decode cX0_underWay 29 = .ok (.iaload, 1) := by decide +kernel
theorem dX0_underWay_30 : decode cX0_underWay 30 = .ok (.aload_n 0, 1) := by decide +kernel
theorem dX0_underWay_31 : decode cX0_underWay 31 = .ok (.getfield 37, 3) := by decide +kernel
theorem dX0_underWay_34 : decode cX0_underWay 34 = .ok (.if_icmp .eq 7, 3) := by decide +kernel
theorem dX0_underWay_37 : decode cX0_underWay 37 = .ok (.iconst 1, 1) := by decide +kernel
theorem dX0_underWay_38 : decode cX0_underWay 38 = .ok (.goto 4, 3) := by decide +kernel
theorem dX0_underWay_41 : decode cX0_underWay 41 = .ok (.iconst 0, 1) := by decide +kernel
theorem dX0_underWay_42 : decode cX0_underWay 42 = .ok (.ireturn, 1) := by decide +kernel
theorem dX0_shows_0 : decode cX0_shows 0 = .ok (.iconst 0, 1) := by decide +kernel
theorem dX0_shows_1 : decode cX0_shows 1 = .ok (.istore_n 1, 1) := by decide +kernel
theorem dX0_shows_2 : decode cX0_shows 2 = .ok (.iconst 0, 1) := by decide +kernel
theorem dX0_shows_3 : decode cX0_shows 3 = .ok (.istore_n 2, 1) := by decide +kernel
theorem dX0_shows_4 : decode cX0_shows 4 = .ok (.iload_n 2, 1) := by decide +kernel
theorem dX0_shows_5 : decode cX0_shows 5 = .ok (.iconst 3, 1) := by decide +kernel
theorem dX0_shows_6 : decode cX0_shows 6 = .ok (.if_icmp .ge 47, 3) := by decide +kernel
theorem dX0_shows_9 : decode cX0_shows 9 = .ok (.iload_n 1, 1) := by decide +kernel
theorem dX0_shows_10 : decode cX0_shows 10 = .ok (.ifCond .ne 31, 3) := by decide +kernel
theorem dX0_shows_13 : decode cX0_shows 13 = .ok (.aload_n 0, 1) := by decide +kernel
theorem dX0_shows_14 : decode cX0_shows 14 = .ok (.getfield 20, 3) := by decide +kernel
theorem dX0_shows_17 : decode cX0_shows 17 = .ok (.bipush 9, 2) := by decide +kernel
theorem dX0_shows_19 : decode cX0_shows 19 = .ok (.iload_n 2, 1) := by decide +kernel
theorem dX0_shows_20 : decode cX0_shows 20 = .ok (.iadd, 1) := by decide +kernel
theorem dX0_shows_21 : decode cX0_shows 21 = .ok (.invokevirtual 70, 3) := by decide +kernel
theorem dX0_shows_24 : decode cX0_shows 24 = .ok (.ifCond .ne 21, 3) := by decide +kernel
theorem dX0_shows_27 : decode cX0_shows 27 = .ok (.aload_n 0, 1) := by decide +kernel
theorem dX0_shows_28 : decode cX0_shows 28 = .ok (.getfield 20, 3) := by decide +kernel
theorem dX0_shows_31 : decode cX0_shows 31 = .ok (.bipush 12, 2) := by decide +kernel
theorem dX0_shows_33 : decode cX0_shows 33 = .ok (.iload_n 2, 1) := by decide +kernel
theorem dX0_shows_34 : decode cX0_shows 34 = .ok (.iadd, 1) := by decide +kernel
theorem dX0_shows_35 : decode cX0_shows 35 = .ok (.invokevirtual 70, 3) := by decide +kernel
theorem dX0_shows_38 : decode cX0_shows 38 = .ok (.ifCond .ne 7, 3) := by decide +kernel
theorem dX0_shows_41 : decode cX0_shows 41 = .ok (.iconst 1, 1) := by decide +kernel
theorem dX0_shows_42 : decode cX0_shows 42 = .ok (.goto 4, 3) := by decide +kernel
theorem dX0_shows_45 : decode cX0_shows 45 = .ok (.iconst 0, 1) := by decide +kernel
theorem dX0_shows_46 : decode cX0_shows 46 = .ok (.istore_n 1, 1) := by decide +kernel
theorem dX0_shows_47 : decode cX0_shows 47 = .ok (.iinc 2 1, 3) := by decide +kernel
theorem dX0_shows_50 : decode cX0_shows 50 = .ok (.goto (-46), 3) := by decide +kernel
theorem dX0_shows_53 : decode cX0_shows 53 = .ok (.aload_n 0, 1) := by decide +kernel
theorem dX0_shows_54 : decode cX0_shows 54 = .ok (.getfield 20, 3) := by decide +kernel
theorem dX0_shows_57 : decode cX0_shows 57 = .ok (.bipush 9, 2) := by decide +kernel
theorem dX0_shows_59 : decode cX0_shows 59 = .ok (.invokevirtual 74, 3) := by decide +kernel
theorem dX0_shows_62 : decode cX0_shows 62 = .ok (.ifCond .eq 7, 3) := by decide +kernel
theorem dX0_shows_65 : decode cX0_shows 65 = .ok (.iconst 1, 1) := by decide +kernel
theorem dX0_shows_66 : decode cX0_shows 66 = .ok (.goto 4, 3) := by decide +kernel
theorem dX0_shows_69 : decode cX0_shows 69 = .ok (.iconst 0, 1) := by decide +kernel
theorem dX0_shows_70 : decode cX0_shows 70 = .ok (.iload_n 1, 1) := by decide +kernel
theorem dX0_shows_71 : decode cX0_shows 71 = .ok (.ifCond .eq 7, 3) := by decide +kernel
theorem dX0_shows_74 : decode cX0_shows 74 = .ok (.iconst 2, 1) := by decide +kernel
theorem dX0_shows_75 : decode cX0_shows 75 = .ok (.goto 4, 3) := by decide +kernel
theorem dX0_shows_78 : decode cX0_shows 78 = .ok (.iconst 0, 1) := by decide +kernel
theorem dX0_shows_79 : decode cX0_shows 79 = .ok (.ior, 1) := by decide +kernel
theorem dX0_shows_80 : decode cX0_shows 80 = .ok (.aload_n 0, 1) := by decide +kernel
theorem dX0_shows_81 : decode cX0_shows 81 = .ok (.getfield 43, 3) := by decide +kernel
theorem dX0_shows_84 : decode cX0_shows 84 = .ok (.ifCond .eq 7, 3) := by decide +kernel
theorem dX0_shows_87 : decode cX0_shows 87 = .ok (.iconst 4, 1) := by decide +kernel
theorem dX0_shows_88 : decode cX0_shows 88 = .ok (.goto 4, 3) := by decide +kernel
theorem dX0_shows_91 : decode cX0_shows 91 = .ok (.iconst 0, 1) := by decide +kernel
theorem dX0_shows_92 : decode cX0_shows 92 = .ok (.ior, 1) := by decide +kernel
theorem dX0_shows_93 : decode cX0_shows 93 = .ok (.ireturn, 1) := by decide +kernel
theorem dX0_act_0 : decode cX0_act 0 = .ok (.aload_n 0, 1) := by decide +kernel
theorem dX0_act_1 : decode cX0_act 1 = .ok (.getfield 20, 3) := by decide +kernel
theorem dX0_act_4 : decode cX0_act 4 = .ok (.aload_n 1, 1) := by decide +kernel
theorem dX0_act_5 : decode cX0_act 5 = .ok (.invokevirtual 77, 3) := by decide +kernel
theorem dX0_act_8 : decode cX0_act 8 = .ok (.aload_n 0, 1) := by decide +kernel
theorem dX0_act_9 : decode cX0_act 9 = .ok (.dup, 1) := by decide +kernel
theorem dX0_act_10 : decode cX0_act 10 = .ok (.getfield 34, 3) := by decide +kernel
theorem dX0_act_13 : decode cX0_act 13 = .ok (.iconst 1, 1) := by decide +kernel
theorem dX0_act_14 : decode cX0_act 14 = .ok (.iadd, 1) := by decide +kernel
theorem dX0_act_15 : decode cX0_act 15 = .ok (.putfield 34, 3) := by decide +kernel
theorem dX0_act_18 : decode cX0_act 18 = .ok (.aload_n 0, 1) := by decide +kernel
theorem dX0_act_19 : decode cX0_act 19 = .ok (.getfield 20, 3) := by decide +kernel
theorem dX0_act_22 : decode cX0_act 22 = .ok (.getfield 67, 3) := by decide +kernel
theorem dX0_act_25 : decode cX0_act 25 = .ok (.iconst 0, 1) := by decide +kernel
theorem dX0_act_26 : decode cX0_act 26 = .ok (.iaload, 1) := by decide +kernel
theorem dX0_act_27 : decode cX0_act 27 = .ok (.aload_n 0, 1) := by decide +kernel
theorem dX0_act_28 : decode cX0_act 28 = .ok (.getfield 37, 3) := by decide +kernel
theorem dX0_act_31 : decode cX0_act 31 = .ok (.if_icmp .eq 7, 3) := by decide +kernel
theorem dX0_act_34 : decode cX0_act 34 = .ok (.iconst 1, 1) := by decide +kernel
theorem dX0_act_35 : decode cX0_act 35 = .ok (.goto 4, 3) := by decide +kernel
theorem dX0_act_38 : decode cX0_act 38 = .ok (.iconst 0, 1) := by decide +kernel
theorem dX0_act_39 : decode cX0_act 39 = .ok (.istore 4, 2) := by decide +kernel
theorem dX0_act_41 : decode cX0_act 41 = .ok (.iload 4, 2) := by decide +kernel
theorem dX0_act_43 : decode cX0_act 43 = .ok (.ifCond .eq 10, 3) := by decide +kernel
theorem dX0_act_46 : decode cX0_act 46 = .ok (.aload_n 0, 1) := by decide +kernel
theorem dX0_act_47 : decode cX0_act 47 = .ok (.invokevirtual 80, 3) := by decide +kernel
theorem dX0_act_50 : decode cX0_act 50 = .ok (.goto 7, 3) := by decide +kernel
theorem dX0_act_53 : decode cX0_act 53 = .ok (.aload_n 0, 1) := by decide +kernel
theorem dX0_act_54 : decode cX0_act 54 = .ok (.invokevirtual 83, 3) := by decide +kernel
theorem dX0_act_57 : decode cX0_act 57 = .ok (.istore 5, 2) := by decide +kernel
theorem dX0_act_59 : decode cX0_act 59 = .ok (.aload_n 0, 1) := by decide +kernel
theorem dX0_act_60 : decode cX0_act 60 = .ok (.getfield 43, 3) := by decide +kernel
theorem dX0_act_63 : decode cX0_act 63 = .ok (.ifCond .ne 29, 3) := by decide +kernel
theorem dX0_act_66 : decode cX0_act 66 = .ok (.iload 5, 2) := by decide +kernel
theorem dX0_act_68 : decode cX0_act 68 = .ok (.aload_n 0, 1) := by decide +kernel
theorem dX0_act_69 : decode cX0_act 69 = .ok (.getfield 31, 3) := by decide +kernel
theorem dX0_act_72 : decode cX0_act 72 = .ok (.if_icmp .eq 20, 3) := by decide +kernel
theorem dX0_act_75 : decode cX0_act 75 = .ok (.aload_n 0, 1) := by decide +kernel
theorem dX0_act_76 : decode cX0_act 76 = .ok (.iload 5, 2) := by decide +kernel
theorem dX0_act_78 : decode cX0_act 78 = .ok (.invokevirtual 86, 3) := by decide +kernel
theorem dX0_act_81 : decode cX0_act 81 = .ok (.aload_n 2, 1) := by decide +kernel
theorem dX0_act_82 : decode cX0_act 82 = .ok (.iload_n 3, 1) := by decide +kernel
theorem dX0_act_83 : decode cX0_act 83 = .ok (.aload_n 0, 1) := by decide +kernel
theorem dX0_act_84 : decode cX0_act 84 = .ok (.getfield 9, 3) := by decide +kernel
theorem dX0_act_87 : decode cX0_act 87 = .ok (.iload 5, 2) := by decide +kernel
theorem dX0_act_89 : decode cX0_act 89 = .ok (.invokevirtual 90, 3) := by decide +kernel
theorem dX0_act_92 : decode cX0_act 92 = .ok (.aload_n 0, 1) := by decide +kernel
theorem dX0_act_93 : decode cX0_act 93 = .ok (.getfield 27, 3) := by decide +kernel
theorem dX0_act_96 : decode cX0_act 96 = .ok (.aload_n 0, 1) := by decide +kernel
theorem dX0_act_97 : decode cX0_act 97 = .ok (.invokevirtual 55, 3) := by decide +kernel
theorem dX0_act_100 : decode cX0_act 100 = .ok (.iload 4, 2) := by decide +kernel
theorem dX0_act_102 : decode cX0_act 102 = .ok (.invokevirtual 96, 3) := by decide +kernel
theorem dX0_act_105 : decode cX0_act 105 = .ok (.aload_n 0, 1) := by decide +kernel
theorem dX0_act_106 : decode cX0_act 106 = .ok (.getfield 43, 3) := by decide +kernel
theorem dX0_act_109 : decode cX0_act 109 = .ok (.ifCond .ne 41, 3) := by decide +kernel
theorem dX0_act_112 : decode cX0_act 112 = .ok (.aload_n 0, 1) := by decide +kernel
theorem dX0_act_113 : decode cX0_act 113 = .ok (.aload_n 0, 1) := by decide +kernel
theorem dX0_act_114 : decode cX0_act 114 = .ok (.getfield 27, 3) := by decide +kernel
theorem dX0_act_117 : decode cX0_act 117 = .ok (.aload_n 0, 1) := by decide +kernel
theorem dX0_act_118 : decode cX0_act 118 = .ok (.getfield 20, 3) := by decide +kernel
theorem dX0_act_121 : decode cX0_act 121 = .ok (.invokevirtual 100, 3) := by decide +kernel
theorem dX0_act_124 : decode cX0_act 124 = .ok (.putfield 43, 3) := by decide +kernel
theorem dX0_act_127 : decode cX0_act 127 = .ok (.aload_n 0, 1) := by decide +kernel
theorem dX0_act_128 : decode cX0_act 128 = .ok (.getfield 43, 3) := by decide +kernel
theorem dX0_act_131 : decode cX0_act 131 = .ok (.ifCond .eq 19, 3) := by decide +kernel
theorem dX0_act_134 : decode cX0_act 134 = .ok (.aload_n 2, 1) := by decide +kernel
theorem dX0_act_135 : decode cX0_act 135 = .ok (.iload_n 3, 1) := by decide +kernel
theorem dX0_act_136 : decode cX0_act 136 = .ok (.aload_n 0, 1) := by decide +kernel
theorem dX0_act_137 : decode cX0_act 137 = .ok (.getfield 9, 3) := by decide +kernel
theorem dX0_act_140 : decode cX0_act 140 = .ok (.bipush 10, 2) := by decide +kernel
theorem dX0_act_142 : decode cX0_act 142 = .ok (.aload_n 0, 1) := by decide +kernel
theorem dX0_act_143 : decode cX0_act 143 = .ok (.getfield 43, 3) := by decide +kernel
theorem dX0_act_146 : decode cX0_act 146 = .ok (.iadd, 1) := by decide +kernel
theorem dX0_act_147 : decode cX0_act 147 = .ok (.invokevirtual 90, 3) := by decide +kernel
theorem dX0_act_150 : decode cX0_act 150 = .ok (.return_, 1) := by decide +kernel
theorem dX0_come_0 : decode cX0_come 0 = .ok (.aload_n 0, 1) := by decide +kernel
theorem dX0_come_1 : decode cX0_come 1 = .ok (.getfield 31, 3) := by decide +kernel
theorem dX0_come_4 : decode cX0_come 4 = .ok (.iconst 5, 1) := by decide +kernel
theorem dX0_come_5 : decode cX0_come 5 = .ok (.if_icmp .ne 8, 3) := by decide +kernel
theorem dX0_come_8 : decode cX0_come 8 = .ok (.aload_n 0, 1) := by decide +kernel
theorem dX0_come_9 : decode cX0_come 9 = .ok (.iconst 0, 1) := by decide +kernel
theorem dX0_come_10 : decode cX0_come 10 = .ok (.putfield 40, 3) := by decide +kernel
theorem dX0_come_13 : decode cX0_come 13 = .ok (.aload_n 0, 1) := by decide +kernel
theorem dX0_come_14 : decode cX0_come 14 = .ok (.iload_n 1, 1) := by decide +kernel
theorem dX0_come_15 : decode cX0_come 15 = .ok (.putfield 31, 3) := by decide +kernel
theorem dX0_come_18 : decode cX0_come 18 = .ok (.aload_n 0, 1) := by decide +kernel
theorem dX0_come_19 : decode cX0_come 19 = .ok (.iconst 0, 1) := by decide +kernel
theorem dX0_come_20 : decode cX0_come 20 = .ok (.putfield 34, 3) := by decide +kernel
theorem dX0_come_23 : decode cX0_come 23 = .ok (.return_, 1) := by decide +kernel
theorem dX0_turn_0 : decode cX0_turn 0 = .ok (.aload_n 0, 1) := by decide +kernel
theorem dX0_turn_1 : decode cX0_turn 1 = .ok (.aload_n 0, 1) := by decide +kernel
theorem dX0_turn_2 : decode cX0_turn 2 = .ok (.getfield 20, 3) := by decide +kernel
theorem dX0_turn_5 : decode cX0_turn 5 = .ok (.getfield 67, 3) := by decide +kernel
theorem dX0_turn_8 : decode cX0_turn 8 = .ok (.iconst 0, 1) := by decide +kernel
theorem dX0_turn_9 : decode cX0_turn 9 = .ok (.iaload, 1) := by decide +kernel
theorem dX0_turn_10 : decode cX0_turn 10 = .ok (.putfield 37, 3) := by decide +kernel
theorem dX0_turn_13 : decode cX0_turn 13 = .ok (.aload_n 0, 1) := by decide +kernel
theorem dX0_turn_14 : decode cX0_turn 14 = .ok (.getfield 31, 3) := by decide +kernel
theorem dX0_turn_17 : decode cX0_turn 17 = .ok (.tableswitch 58 0 7 #[47, 58, 58, 49, 58, 51, 51, 51], 47) := by decide +kernel
theorem dX0_turn_64 : decode cX0_turn 64 = .ok (.iconst 1, 1) := by decide +kernel
theorem dX0_turn_65 : decode cX0_turn 65 = .ok (.ireturn, 1) := by decide +kernel
theorem dX0_turn_66 : decode cX0_turn 66 = .ok (.iconst 4, 1) := by decide +kernel
theorem dX0_turn_67 : decode cX0_turn 67 = .ok (.ireturn, 1) := by decide +kernel
theorem dX0_turn_68 : decode cX0_turn 68 = .ok (.aload_n 0, 1) := by decide +kernel
theorem dX0_turn_69 : decode cX0_turn 69 = .ok (.iconst 1, 1) := by decide +kernel
theorem dX0_turn_70 : decode cX0_turn 70 = .ok (.putfield 40, 3) := by decide +kernel
theorem dX0_turn_73 : decode cX0_turn 73 = .ok (.iconst 5, 1) := by decide +kernel
theorem dX0_turn_74 : decode cX0_turn 74 = .ok (.ireturn, 1) := by decide +kernel
theorem dX0_turn_75 : decode cX0_turn 75 = .ok (.aload_n 0, 1) := by decide +kernel
theorem dX0_turn_76 : decode cX0_turn 76 = .ok (.getfield 31, 3) := by decide +kernel
theorem dX0_turn_79 : decode cX0_turn 79 = .ok (.ireturn, 1) := by decide +kernel
theorem dX0_nextStage_0 : decode cX0_nextStage 0 = .ok (.aload_n 0, 1) := by decide +kernel
theorem dX0_nextStage_1 : decode cX0_nextStage 1 = .ok (.getfield 31, 3) := by decide +kernel
theorem dX0_nextStage_4 : decode cX0_nextStage 4 = .ok (.tableswitch 152 1 7 #[44, 58, 76, 89, 102, 117, 136], 44) := by decide +kernel
theorem dX0_nextStage_48 : decode cX0_nextStage 48 = .ok (.aload_n 0, 1) := by decide +kernel
theorem dX0_nextStage_49 : decode cX0_nextStage 49 = .ok (.getfield 34, 3) := by decide +kernel
theorem dX0_nextStage_52 : decode cX0_nextStage 52 = .ok (.iconst 2, 1) := by decide +kernel
theorem dX0_nextStage_53 : decode cX0_nextStage 53 = .ok (.if_icmp .lt 7, 3) := by decide +kernel
theorem dX0_nextStage_56 : decode cX0_nextStage 56 = .ok (.iconst 2, 1) := by decide +kernel
theorem dX0_nextStage_57 : decode cX0_nextStage 57 = .ok (.goto 4, 3) := by decide +kernel
theorem dX0_nextStage_60 : decode cX0_nextStage 60 = .ok (.iconst 1, 1) := by decide +kernel
theorem dX0_nextStage_61 : decode cX0_nextStage 61 = .ok (.ireturn, 1) := by decide +kernel
theorem dX0_nextStage_62 : decode cX0_nextStage 62 = .ok (.aload_n 0, 1) := by decide +kernel
theorem dX0_nextStage_63 : decode cX0_nextStage 63 = .ok (.getfield 20, 3) := by decide +kernel
theorem dX0_nextStage_66 : decode cX0_nextStage 66 = .ok (.bipush 6, 2) := by decide +kernel
theorem dX0_nextStage_68 : decode cX0_nextStage 68 = .ok (.invokevirtual 74, 3) := by decide +kernel
theorem dX0_nextStage_71 : decode cX0_nextStage 71 = .ok (.ifCond .eq 7, 3) := by decide +kernel
theorem dX0_nextStage_74 : decode cX0_nextStage 74 = .ok (.iconst 4, 1) := by decide +kernel
theorem dX0_nextStage_75 : decode cX0_nextStage 75 = .ok (.goto 4, 3) := by decide +kernel
theorem dX0_nextStage_78 : decode cX0_nextStage 78 = .ok (.iconst 2, 1) := by decide +kernel
theorem dX0_nextStage_79 : decode cX0_nextStage 79 = .ok (.ireturn, 1) := by decide +kernel
theorem dX0_nextStage_80 : decode cX0_nextStage 80 = .ok (.aload_n 0, 1) := by decide +kernel
theorem dX0_nextStage_81 : decode cX0_nextStage 81 = .ok (.invokevirtual 104, 3) := by decide +kernel
theorem dX0_nextStage_84 : decode cX0_nextStage 84 = .ok (.ifCond .eq 7, 3) := by decide +kernel
theorem dX0_nextStage_87 : decode cX0_nextStage 87 = .ok (.iconst 4, 1) := by decide +kernel
theorem dX0_nextStage_88 : decode cX0_nextStage 88 = .ok (.goto 4, 3) := by decide +kernel
theorem dX0_nextStage_91 : decode cX0_nextStage 91 = .ok (.iconst 3, 1) := by decide +kernel
theorem dX0_nextStage_92 : decode cX0_nextStage 92 = .ok (.ireturn, 1) := by decide +kernel
theorem dX0_nextStage_93 : decode cX0_nextStage 93 = .ok (.aload_n 0, 1) := by decide +kernel
theorem dX0_nextStage_94 : decode cX0_nextStage 94 = .ok (.invokevirtual 108, 3) := by decide +kernel
theorem dX0_nextStage_97 : decode cX0_nextStage 97 = .ok (.ifCond .eq 7, 3) := by decide +kernel
theorem dX0_nextStage_100 : decode cX0_nextStage 100 = .ok (.iconst 3, 1) := by decide +kernel
theorem dX0_nextStage_101 : decode cX0_nextStage 101 = .ok (.goto 4, 3) := by decide +kernel
theorem dX0_nextStage_104 : decode cX0_nextStage 104 = .ok (.iconst 5, 1) := by decide +kernel
theorem dX0_nextStage_105 : decode cX0_nextStage 105 = .ok (.ireturn, 1) := by decide +kernel
theorem dX0_nextStage_106 : decode cX0_nextStage 106 = .ok (.aload_n 0, 1) := by decide +kernel
theorem dX0_nextStage_107 : decode cX0_nextStage 107 = .ok (.getfield 40, 3) := by decide +kernel
theorem dX0_nextStage_110 : decode cX0_nextStage 110 = .ok (.iconst 1, 1) := by decide +kernel
theorem dX0_nextStage_111 : decode cX0_nextStage 111 = .ok (.if_icmp .ne 7, 3) := by decide +kernel
theorem dX0_nextStage_114 : decode cX0_nextStage 114 = .ok (.iconst 2, 1) := by decide +kernel
theorem dX0_nextStage_115 : decode cX0_nextStage 115 = .ok (.goto 5, 3) := by decide +kernel
theorem dX0_nextStage_118 : decode cX0_nextStage 118 = .ok (.bipush 6, 2) := by decide +kernel
theorem dX0_nextStage_120 : decode cX0_nextStage 120 = .ok (.ireturn, 1) := by decide +kernel
theorem dX0_nextStage_121 : decode cX0_nextStage 121 = .ok (.aload_n 0, 1) := by decide +kernel
theorem dX0_nextStage_122 : decode cX0_nextStage 122 = .ok (.getfield 20, 3) := by decide +kernel
theorem dX0_nextStage_125 : decode cX0_nextStage 125 = .ok (.iconst 3, 1) := by decide +kernel
theorem dX0_nextStage_126 : decode cX0_nextStage 126 = .ok (.invokevirtual 74, 3) := by decide +kernel
theorem dX0_nextStage_129 : decode cX0_nextStage 129 = .ok (.ifCond .eq 8, 3) := by decide +kernel
theorem dX0_nextStage_132 : decode cX0_nextStage 132 = .ok (.bipush 7, 2) := by decide +kernel
theorem dX0_nextStage_134 : decode cX0_nextStage 134 = .ok (.goto 5, 3) := by decide +kernel
theorem dX0_nextStage_137 : decode cX0_nextStage 137 = .ok (.bipush 6, 2) := by decide +kernel
theorem dX0_nextStage_139 : decode cX0_nextStage 139 = .ok (.ireturn, 1) := by decide +kernel
theorem dX0_nextStage_140 : decode cX0_nextStage 140 = .ok (.aload_n 0, 1) := by decide +kernel
theorem dX0_nextStage_141 : decode cX0_nextStage 141 = .ok (.getfield 34, 3) := by decide +kernel
theorem dX0_nextStage_144 : decode cX0_nextStage 144 = .ok (.bipush 10, 2) := by decide +kernel
theorem dX0_nextStage_146 : decode cX0_nextStage 146 = .ok (.if_icmp .lt 7, 3) := by decide +kernel
theorem dX0_nextStage_149 : decode cX0_nextStage 149 = .ok (.iconst 0, 1) := by decide +kernel
theorem dX0_nextStage_150 : decode cX0_nextStage 150 = .ok (.goto 5, 3) := by decide +kernel
theorem dX0_nextStage_153 : decode cX0_nextStage 153 = .ok (.bipush 7, 2) := by decide +kernel
theorem dX0_nextStage_155 : decode cX0_nextStage 155 = .ok (.ireturn, 1) := by decide +kernel
theorem dX0_nextStage_156 : decode cX0_nextStage 156 = .ok (.aload_n 0, 1) := by decide +kernel
theorem dX0_nextStage_157 : decode cX0_nextStage 157 = .ok (.getfield 31, 3) := by decide +kernel
theorem dX0_nextStage_160 : decode cX0_nextStage 160 = .ok (.ireturn, 1) := by decide +kernel
theorem dX0_gearsThere_0 : decode cX0_gearsThere 0 = .ok (.aload_n 0, 1) := by decide +kernel
theorem dX0_gearsThere_1 : decode cX0_gearsThere 1 = .ok (.getfield 20, 3) := by decide +kernel
theorem dX0_gearsThere_4 : decode cX0_gearsThere 4 = .ok (.aload_n 0, 1) := by decide +kernel
theorem dX0_gearsThere_5 : decode cX0_gearsThere 5 = .ok (.getfield 37, 3) := by decide +kernel
theorem dX0_gearsThere_8 : decode cX0_gearsThere 8 = .ok (.iconst 1, 1) := by decide +kernel
theorem dX0_gearsThere_9 : decode cX0_gearsThere 9 = .ok (.if_icmp .ne 8, 3) := by decide +kernel
theorem dX0_gearsThere_12 : decode cX0_gearsThere 12 = .ok (.bipush 9, 2) := by decide +kernel
theorem dX0_gearsThere_14 : decode cX0_gearsThere 14 = .ok (.goto 5, 3) := by decide +kernel
theorem dX0_gearsThere_17 : decode cX0_gearsThere 17 = .ok (.bipush 12, 2) := by decide +kernel
theorem dX0_gearsThere_19 : decode cX0_gearsThere 19 = .ok (.invokevirtual 74, 3) := by decide +kernel
theorem dX0_gearsThere_22 : decode cX0_gearsThere 22 = .ok (.ireturn, 1) := by decide +kernel
theorem dX0_gearsMayGo_0 : decode cX0_gearsMayGo 0 = .ok (.aload_n 0, 1) := by decide +kernel
theorem dX0_gearsMayGo_1 : decode cX0_gearsMayGo 1 = .ok (.invokevirtual 104, 3) := by decide +kernel
theorem dX0_gearsMayGo_4 : decode cX0_gearsMayGo 4 = .ok (.ifCond .ne 27, 3) := by decide +kernel
theorem dX0_gearsMayGo_7 : decode cX0_gearsMayGo 7 = .ok (.aload_n 0, 1) := by decide +kernel
theorem dX0_gearsMayGo_8 : decode cX0_gearsMayGo 8 = .ok (.getfield 37, 3) := by decide +kernel
theorem dX0_gearsMayGo_11 : decode cX0_gearsMayGo 11 = .ok (.iconst 1, 1) := by decide +kernel
theorem dX0_gearsMayGo_12 : decode cX0_gearsMayGo 12 = .ok (.if_icmp .eq 15, 3) := by decide +kernel
theorem dX0_gearsMayGo_15 : decode cX0_gearsMayGo 15 = .ok (.aload_n 0, 1) := by decide +kernel
theorem dX0_gearsMayGo_16 : decode cX0_gearsMayGo 16 = .ok (.getfield 20, 3) := by decide +kernel
theorem dX0_gearsMayGo_19 : decode cX0_gearsMayGo 19 = .ok (.bipush 15, 2) := by decide +kernel
theorem dX0_gearsMayGo_21 : decode cX0_gearsMayGo 21 = .ok (.invokevirtual 111, 3) := by decide +kernel
theorem dX0_gearsMayGo_24 : decode cX0_gearsMayGo 24 = .ok (.ifCond .ne 7, 3) := by decide +kernel
theorem dX0_gearsMayGo_27 : decode cX0_gearsMayGo 27 = .ok (.iconst 1, 1) := by decide +kernel
theorem dX0_gearsMayGo_28 : decode cX0_gearsMayGo 28 = .ok (.goto 4, 3) := by decide +kernel
theorem dX0_gearsMayGo_31 : decode cX0_gearsMayGo 31 = .ok (.iconst 0, 1) := by decide +kernel
theorem dX0_gearsMayGo_32 : decode cX0_gearsMayGo 32 = .ok (.ireturn, 1) := by decide +kernel
theorem dX1_init_0 : decode cX1_init 0 = .ok (.aload_n 0, 1) := by decide +kernel
theorem dX1_init_1 : decode cX1_init 1 = .ok (.invokespecial 3, 3) := by decide +kernel
theorem dX1_init_4 : decode cX1_init 4 = .ok (.aload_n 0, 1) := by decide +kernel
theorem dX1_init_5 : decode cX1_init 5 = .ok (.sipush 192, 3) := by decide +kernel
theorem dX1_init_8 : decode cX1_init 8 = .ok (.newarray .int, 2) := by decide +kernel
theorem dX1_init_10 : decode cX1_init 10 = .ok (.putfield 9, 3) := by decide +kernel
theorem dX1_init_13 : decode cX1_init 13 = .ok (.aload_n 0, 1) := by decide +kernel
theorem dX1_init_14 : decode cX1_init 14 = .ok (.iconst 0, 1) := by decide +kernel
theorem dX1_init_15 : decode cX1_init 15 = .ok (.putfield 15, 3) := by decide +kernel
theorem dX1_init_18 : decode cX1_init 18 = .ok (.return_, 1) := by decide +kernel
theorem dX1_add_0 : decode cX1_add 0 = .ok (.aload_n 0, 1) := by decide +kernel
theorem dX1_add_1 : decode cX1_add 1 = .ok (.getfield 15, 3) := by decide +kernel
theorem dX1_add_4 : decode cX1_add 4 = .ok (.bipush 64, 2) := by decide +kernel
theorem dX1_add_6 : decode cX1_add 6 = .ok (.invokestatic 19, 3) := by decide +kernel
theorem dX1_add_9 : decode cX1_add 9 = .ok (.iconst 3, 1) := by decide +kernel
theorem dX1_add_10 : decode cX1_add 10 = .ok (.imul, 1) := by decide +kernel
theorem dX1_add_11 : decode cX1_add 11 = .ok (.istore 4, 2) := by decide +kernel
theorem dX1_add_13 : decode cX1_add 13 = .ok (.aload_n 0, 1) := by decide +kernel
theorem dX1_add_14 : decode cX1_add 14 = .ok (.getfield 9, 3) := by decide +kernel
theorem dX1_add_17 : decode cX1_add 17 = .ok (.iload 4, 2) := by decide +kernel
theorem dX1_add_19 : decode cX1_add 19 = .ok (.iload_n 1, 1) := by decide +kernel
theorem dX1_add_20 : decode cX1_add 20 = .ok (.iastore, 1) := by decide +kernel
theorem dX1_add_21 : decode cX1_add 21 = .ok (.aload_n 0, 1) := by decide +kernel
theorem dX1_add_22 : decode cX1_add 22 = .ok (.getfield 9, 3) := by decide +kernel
theorem dX1_add_25 : decode cX1_add 25 = .ok (.iload 4, 2) := by decide +kernel
theorem dX1_add_27 : decode cX1_add 27 = .ok (.iconst 1, 1) := by decide +kernel
theorem dX1_add_28 : decode cX1_add 28 = .ok (.iadd, 1) := by decide +kernel
theorem dX1_add_29 : decode cX1_add 29 = .ok (.iload_n 2, 1) := by decide +kernel
theorem dX1_add_30 : decode cX1_add 30 = .ok (.iastore, 1) := by decide +kernel
theorem dX1_add_31 : decode cX1_add 31 = .ok (.aload_n 0, 1) := by decide +kernel
theorem dX1_add_32 : decode cX1_add 32 = .ok (.getfield 9, 3) := by decide +kernel
theorem dX1_add_35 : decode cX1_add 35 = .ok (.iload 4, 2) := by decide +kernel
theorem dX1_add_37 : decode cX1_add 37 = .ok (.iconst 2, 1) := by decide +kernel
theorem dX1_add_38 : decode cX1_add 38 = .ok (.iadd, 1) := by decide +kernel
theorem dX1_add_39 : decode cX1_add 39 = .ok (.iload_n 3, 1) := by decide +kernel
theorem dX1_add_40 : decode cX1_add 40 = .ok (.iastore, 1) := by decide +kernel
theorem dX1_add_41 : decode cX1_add 41 = .ok (.aload_n 0, 1) := by decide +kernel
theorem dX1_add_42 : decode cX1_add 42 = .ok (.dup, 1) := by decide +kernel
theorem dX1_add_43 : decode cX1_add 43 = .ok (.getfield 15, 3) := by decide +kernel
theorem dX1_add_46 : decode cX1_add 46 = .ok (.iconst 1, 1) := by decide +kernel
theorem dX1_add_47 : decode cX1_add 47 = .ok (.iadd, 1) := by decide +kernel
theorem dX1_add_48 : decode cX1_add 48 = .ok (.putfield 15, 3) := by decide +kernel
theorem dX1_add_51 : decode cX1_add 51 = .ok (.return_, 1) := by decide +kernel
theorem dX1_number_0 : decode cX1_number 0 = .ok (.iload_n 1, 1) := by decide +kernel
theorem dX1_number_1 : decode cX1_number 1 = .ok (.ifCond .lt 22, 3) := by decide +kernel
theorem dX1_number_4 : decode cX1_number 4 = .ok (.iload_n 1, 1) := by decide +kernel
theorem dX1_number_5 : decode cX1_number 5 = .ok (.aload_n 0, 1) := by decide +kernel
theorem dX1_number_6 : decode cX1_number 6 = .ok (.getfield 15, 3) := by decide +kernel
theorem dX1_number_9 : decode cX1_number 9 = .ok (.if_icmp .ge 14, 3) := by decide +kernel
theorem dX1_number_12 : decode cX1_number 12 = .ok (.iload_n 1, 1) := by decide +kernel
theorem dX1_number_13 : decode cX1_number 13 = .ok (.aload_n 0, 1) := by decide +kernel
theorem dX1_number_14 : decode cX1_number 14 = .ok (.getfield 15, 3) := by decide +kernel
theorem dX1_number_17 : decode cX1_number 17 = .ok (.bipush 64, 2) := by decide +kernel
theorem dX1_number_19 : decode cX1_number 19 = .ok (.isub, 1) := by decide +kernel
theorem dX1_number_20 : decode cX1_number 20 = .ok (.if_icmp .ge 5, 3) := by decide +kernel
theorem dX1_number_23 : decode cX1_number 23 = .ok (.iconst (-1), 1) := by decide +kernel
theorem dX1_number_24 : decode cX1_number 24 = .ok (.ireturn, 1) := by decide +kernel
theorem dX1_number_25 : decode cX1_number 25 = .ok (.aload_n 0, 1) := by decide +kernel
theorem dX1_number_26 : decode cX1_number 26 = .ok (.getfield 9, 3) := by decide +kernel
theorem dX1_number_29 : decode cX1_number 29 = .ok (.iload_n 1, 1) := by decide +kernel
theorem dX1_number_30 : decode cX1_number 30 = .ok (.bipush 64, 2) := by decide +kernel
theorem dX1_number_32 : decode cX1_number 32 = .ok (.invokestatic 19, 3) := by decide +kernel
theorem dX1_number_35 : decode cX1_number 35 = .ok (.iconst 3, 1) := by decide +kernel
theorem dX1_number_36 : decode cX1_number 36 = .ok (.imul, 1) := by decide +kernel
theorem dX1_number_37 : decode cX1_number 37 = .ok (.iload_n 2, 1) := by decide +kernel
theorem dX1_number_38 : decode cX1_number 38 = .ok (.iadd, 1) := by decide +kernel
theorem dX1_number_39 : decode cX1_number 39 = .ok (.iaload, 1) := by decide +kernel
theorem dX1_number_40 : decode cX1_number 40 = .ok (.ireturn, 1) := by decide +kernel
theorem dX2_init_0 : decode cX2_init 0 = .ok (.aload_n 0, 1) := by decide +kernel
theorem dX2_init_1 : decode cX2_init 1 = .ok (.invokespecial 3, 3) := by decide +kernel
theorem dX2_init_4 : decode cX2_init 4 = .ok (.aload_n 0, 1) := by decide +kernel
theorem dX2_init_5 : decode cX2_init 5 = .ok (.bipush 6, 2) := by decide +kernel
theorem dX2_init_7 : decode cX2_init 7 = .ok (.newarray .int, 2) := by decide +kernel
theorem dX2_init_9 : decode cX2_init 9 = .ok (.putfield 9, 3) := by decide +kernel
theorem dX2_init_12 : decode cX2_init 12 = .ok (.aload_n 0, 1) := by decide +kernel
theorem dX2_init_13 : decode cX2_init 13 = .ok (.bipush 6, 2) := by decide +kernel
theorem dX2_init_15 : decode cX2_init 15 = .ok (.newarray .int, 2) := by decide +kernel
theorem dX2_init_17 : decode cX2_init 17 = .ok (.putfield 15, 3) := by decide +kernel
theorem dX2_init_20 : decode cX2_init 20 = .ok (.aload_n 0, 1) := by decide +kernel
theorem dX2_init_21 : decode cX2_init 21 = .ok (.bipush 6, 2) := by decide +kernel
theorem dX2_init_23 : decode cX2_init 23 = .ok (.newarray .int, 2) := by decide +kernel
theorem dX2_init_25 : decode cX2_init 25 = .ok (.putfield 18, 3) := by decide +kernel
theorem dX2_init_28 : decode cX2_init 28 = .ok (.aload_n 0, 1) := by decide +kernel
theorem dX2_init_29 : decode cX2_init 29 = .ok (.iconst 5, 1) := by decide +kernel
theorem dX2_init_30 : decode cX2_init 30 = .ok (.newarray .int, 2) := by decide +kernel
theorem dX2_init_32 : decode cX2_init 32 = .ok (.putfield 21, 3) := by decide +kernel
theorem dX2_init_35 : decode cX2_init 35 = .ok (.aload_n 0, 1) := by decide +kernel
theorem dX2_init_36 : decode cX2_init 36 = .ok (.iconst 5, 1) := by decide +kernel
theorem dX2_init_37 : decode cX2_init 37 = .ok (.newarray .int, 2) := by decide +kernel
theorem dX2_init_39 : decode cX2_init 39 = .ok (.putfield 24, 3) := by decide +kernel
theorem dX2_init_42 : decode cX2_init 42 = .ok (.iconst 0, 1) := by decide +kernel
theorem dX2_init_43 : decode cX2_init 43 = .ok (.istore 5, 2) := by decide +kernel
theorem dX2_init_45 : decode cX2_init 45 = .ok (.iload 5, 2) := by decide +kernel
theorem dX2_init_47 : decode cX2_init 47 = .ok (.iconst 3, 1) := by decide +kernel
theorem dX2_init_48 : decode cX2_init 48 = .ok (.if_icmp .ge 70, 3) := by decide +kernel
theorem dX2_init_51 : decode cX2_init 51 = .ok (.aload_n 0, 1) := by decide +kernel
theorem dX2_init_52 : decode cX2_init 52 = .ok (.getfield 9, 3) := by decide +kernel
theorem dX2_init_55 : decode cX2_init 55 = .ok (.iload 5, 2) := by decide +kernel
theorem dX2_init_57 : decode cX2_init 57 = .ok (.iload 5, 2) := by decide +kernel
theorem dX2_init_59 : decode cX2_init 59 = .ok (.ifCond .ne 7, 3) := by decide +kernel
theorem dX2_init_62 : decode cX2_init 62 = .ok (.iload_n 1, 1) := by decide +kernel
theorem dX2_init_63 : decode cX2_init 63 = .ok (.goto 4, 3) := by decide +kernel
theorem dX2_init_66 : decode cX2_init 66 = .ok (.iload_n 2, 1) := by decide +kernel
theorem dX2_init_67 : decode cX2_init 67 = .ok (.invokestatic 27, 3) := by decide +kernel
theorem dX2_init_70 : decode cX2_init 70 = .ok (.iastore, 1) := by decide +kernel
theorem dX2_init_71 : decode cX2_init 71 = .ok (.aload_n 0, 1) := by decide +kernel
theorem dX2_init_72 : decode cX2_init 72 = .ok (.getfield 9, 3) := by decide +kernel
theorem dX2_init_75 : decode cX2_init 75 = .ok (.iconst 3, 1) := by decide +kernel
theorem dX2_init_76 : decode cX2_init 76 = .ok (.iload 5, 2) := by decide +kernel
theorem dX2_init_78 : decode cX2_init 78 = .ok (.iadd, 1) := by decide +kernel
theorem dX2_init_79 : decode cX2_init 79 = .ok (.iload 5, 2) := by decide +kernel
theorem dX2_init_81 : decode cX2_init 81 = .ok (.ifCond .ne 7, 3) := by decide +kernel
theorem dX2_init_84 : decode cX2_init 84 = .ok (.iload_n 3, 1) := by decide +kernel
theorem dX2_init_85 : decode cX2_init 85 = .ok (.goto 5, 3) := by decide +kernel
theorem dX2_init_88 : decode cX2_init 88 = .ok (.iload 4, 2) := by decide +kernel
theorem dX2_init_90 : decode cX2_init 90 = .ok (.invokestatic 27, 3) := by decide +kernel
theorem dX2_init_93 : decode cX2_init 93 = .ok (.iastore, 1) := by decide +kernel
theorem dX2_init_94 : decode cX2_init 94 = .ok (.aload_n 0, 1) := by decide +kernel
theorem dX2_init_95 : decode cX2_init 95 = .ok (.getfield 15, 3) := by decide +kernel
theorem dX2_init_98 : decode cX2_init 98 = .ok (.iconst 3, 1) := by decide +kernel
theorem dX2_init_99 : decode cX2_init 99 = .ok (.iload 5, 2) := by decide +kernel
theorem dX2_init_101 : decode cX2_init 101 = .ok (.iadd, 1) := by decide +kernel
theorem dX2_init_102 : decode cX2_init 102 = .ok (.aload_n 0, 1) := by decide +kernel
theorem dX2_init_103 : decode cX2_init 103 = .ok (.getfield 9, 3) := by decide +kernel
theorem dX2_init_106 : decode cX2_init 106 = .ok (.iconst 3, 1) := by decide +kernel
theorem dX2_init_107 : decode cX2_init 107 = .ok (.iload 5, 2) := by decide +kernel
theorem dX2_init_109 : decode cX2_init 109 = .ok (.iadd, 1) := by decide +kernel
theorem dX2_init_110 : decode cX2_init 110 = .ok (.iaload, 1) := by decide +kernel
theorem dX2_init_111 : decode cX2_init 111 = .ok (.iastore, 1) := by decide +kernel
theorem dX2_init_112 : decode cX2_init 112 = .ok (.iinc 5 1, 3) := by decide +kernel
theorem dX2_init_115 : decode cX2_init 115 = .ok (.goto (-70), 3) := by decide +kernel
theorem dX2_init_118 : decode cX2_init 118 = .ok (.aload_n 0, 1) := by decide +kernel
theorem dX2_init_119 : decode cX2_init 119 = .ok (.iconst 1, 1) := by decide +kernel
theorem dX2_init_120 : decode cX2_init 120 = .ok (.putfield 31, 3) := by decide +kernel
theorem dX2_init_123 : decode cX2_init 123 = .ok (.aload_n 0, 1) := by decide +kernel
theorem dX2_init_124 : decode cX2_init 124 = .ok (.iconst 0, 1) := by decide +kernel
theorem dX2_init_125 : decode cX2_init 125 = .ok (.putfield 35, 3) := by decide +kernel
theorem dX2_init_128 : decode cX2_init 128 = .ok (.aload_n 0, 1) := by decide +kernel
theorem dX2_init_129 : decode cX2_init 129 = .ok (.iconst 0, 1) := by decide +kernel
theorem dX2_init_130 : decode cX2_init 130 = .ok (.putfield 38, 3) := by decide +kernel
theorem dX2_init_133 : decode cX2_init 133 = .ok (.aload_n 0, 1) := by decide +kernel
theorem dX2_init_134 : decode cX2_init 134 = .ok (.iconst 0, 1) := by decide +kernel
theorem dX2_init_135 : decode cX2_init 135 = .ok (.putfield 41, 3) := by decide +kernel
theorem dX2_init_138 : decode cX2_init 138 = .ok (.aload_n 0, 1) := by decide +kernel
theorem dX2_init_139 : decode cX2_init 139 = .ok (.bipush 7, 2) := by decide +kernel
theorem dX2_init_141 : decode cX2_init 141 = .ok (.putfield 44, 3) := by decide +kernel
theorem dX2_init_144 : decode cX2_init 144 = .ok (.aload_n 0, 1) := by decide +kernel
theorem dX2_init_145 : decode cX2_init 145 = .ok (.iconst 0, 1) := by decide +kernel
theorem dX2_init_146 : decode cX2_init 146 = .ok (.putfield 47, 3) := by decide +kernel
theorem dX2_init_149 : decode cX2_init 149 = .ok (.return_, 1) := by decide +kernel
theorem dX2_usableLength_0 : decode cX2_usableLength 0 = .ok (.iload_n 0, 1) := by decide +kernel
theorem dX2_usableLength_1 : decode cX2_usableLength 1 = .ok (.iconst 5, 1) := by decide +kernel
theorem dX2_usableLength_2 : decode cX2_usableLength 2 = .ok (.if_icmp .lt 9, 3) := by decide +kernel
theorem dX2_usableLength_5 : decode cX2_usableLength 5 = .ok (.iload_n 0, 1) := by decide +kernel
theorem dX2_usableLength_6 : decode cX2_usableLength 6 = .ok (.bipush 40, 2) := by decide +kernel
theorem dX2_usableLength_8 : decode cX2_usableLength 8 = .ok (.if_icmp .le 8, 3) := by decide +kernel
theorem dX2_usableLength_11 : decode cX2_usableLength 11 = .ok (.bipush 15, 2) := by decide +kernel
theorem dX2_usableLength_13 : decode cX2_usableLength 13 = .ok (.goto 4, 3) := by decide +kernel
theorem dX2_usableLength_16 : decode cX2_usableLength 16 = .ok (.iload_n 0, 1) := by decide +kernel
theorem dX2_usableLength_17 : decode cX2_usableLength 17 = .ok (.ireturn, 1) := by decide +kernel
theorem dX2_greatestLength_0 : decode cX2_greatestLength 0 = .ok (.aload_n 0, 1) := by decide +kernel
theorem dX2_greatestLength_1 : decode cX2_greatestLength 1 = .ok (.getfield 9, 3) := by decide +kernel
theorem dX2_greatestLength_4 : decode cX2_greatestLength 4 = .ok (.iload_n 1, 1) := by decide +kernel
theorem dX2_greatestLength_5 : decode cX2_greatestLength 5 = .ok (.iaload, 1) := by decide +kernel
theorem dX2_greatestLength_6 : decode cX2_greatestLength 6 = .ok (.aload_n 0, 1) := by decide +kernel
theorem dX2_greatestLength_7 : decode cX2_greatestLength 7 = .ok (.getfield 9, 3) := by decide +kernel
theorem dX2_greatestLength_10 : decode cX2_greatestLength 10 = .ok (.iload_n 1, 1) := by decide +kernel
theorem dX2_greatestLength_11 : decode cX2_greatestLength 11 = .ok (.iconst 1, 1) := by decide +kernel
theorem dX2_greatestLength_12 : decode cX2_greatestLength 12 = .ok (.iadd, 1) := by decide +kernel
theorem dX2_greatestLength_13 : decode cX2_greatestLength 13 = .ok (.iaload, 1) := by decide +kernel
theorem dX2_greatestLength_14 : decode cX2_greatestLength 14 = .ok (.invokestatic 50, 3) := by decide +kernel
theorem dX2_greatestLength_17 : decode cX2_greatestLength 17 = .ok (.ireturn, 1) := by decide +kernel
theorem dX2_moveHandle_0 : decode cX2_moveHandle 0 = .ok (.aload_n 0, 1) := by decide +kernel
theorem dX2_moveHandle_1 : decode cX2_moveHandle 1 = .ok (.getfield 31, 3) := by decide +kernel
theorem dX2_moveHandle_4 : decode cX2_moveHandle 4 = .ok (.istore_n 2, 1) := by decide +kernel
theorem dX2_moveHandle_5 : decode cX2_moveHandle 5 = .ok (.iload_n 2, 1) := by decide +kernel
theorem dX2_moveHandle_6 : decode cX2_moveHandle 6 = .ok (.iload_n 1, 1) := by decide +kernel
theorem dX2_moveHandle_7 : decode cX2_moveHandle 7 = .ok (.if_icmp .eq 15, 3) := by decide +kernel
theorem dX2_moveHandle_10 : decode cX2_moveHandle 10 = .ok (.aload_n 0, 1) := by decide +kernel
theorem dX2_moveHandle_11 : decode cX2_moveHandle 11 = .ok (.iload_n 1, 1) := by decide +kernel
theorem dX2_moveHandle_12 : decode cX2_moveHandle 12 = .ok (.putfield 31, 3) := by decide +kernel
theorem dX2_moveHandle_15 : decode cX2_moveHandle 15 = .ok (.aload_n 0, 1) := by decide +kernel
theorem dX2_moveHandle_16 : decode cX2_moveHandle 16 = .ok (.sipush 200, 3) := by decide +kernel
theorem dX2_moveHandle_19 : decode cX2_moveHandle 19 = .ok (.putfield 38, 3) := by decide +kernel
theorem dX2_moveHandle_22 : decode cX2_moveHandle 22 = .ok (.iload_n 2, 1) := by decide +kernel
theorem dX2_moveHandle_23 : decode cX2_moveHandle 23 = .ok (.ireturn, 1) := by decide +kernel
theorem dX2_move_0 : decode cX2_move 0 = .ok (.aload_n 0, 1) := by decide +kernel
theorem dX2_move_1 : decode cX2_move 1 = .ok (.getfield 41, 3) := by decide +kernel
theorem dX2_move_4 : decode cX2_move 4 = .ok (.ifCond .ne 7, 3) := by decide +kernel
theorem dX2_move_7 : decode cX2_move 7 = .ok (.aload_n 0, 1) := by decide +kernel
theorem dX2_move_8 : decode cX2_move 8 = .ok (.invokevirtual 56, 3) := by decide +kernel
theorem dX2_move_11 : decode cX2_move 11 = .ok (.aload_n 0, 1) := by decide +kernel
theorem dX2_move_12 : decode cX2_move 12 = .ok (.iload_n 1, 1) := by decide +kernel
theorem dX2_move_13 : decode cX2_move 13 = .ok (.invokevirtual 59, 3) := by decide +kernel
theorem dX2_move_16 : decode cX2_move 16 = .ok (.iconst 0, 1) := by decide +kernel
theorem dX2_move_17 : decode cX2_move 17 = .ok (.istore_n 2, 1) := by decide +kernel
theorem dX2_move_18 : decode cX2_move 18 = .ok (.iload_n 2, 1) := by decide +kernel
theorem dX2_move_19 : decode cX2_move 19 = .ok (.iconst 3, 1) := by decide +kernel
theorem dX2_move_20 : decode cX2_move 20 = .ok (.if_icmp .ge 21, 3) := by decide +kernel
theorem dX2_move_23 : decode cX2_move 23 = .ok (.aload_n 0, 1) := by decide +kernel
theorem dX2_move_24 : decode cX2_move 24 = .ok (.iload_n 2, 1) := by decide +kernel
theorem dX2_move_25 : decode cX2_move 25 = .ok (.aload_n 0, 1) := by decide +kernel
theorem dX2_move_26 : decode cX2_move 26 = .ok (.iconst 1, 1) := by decide +kernel
theorem dX2_move_27 : decode cX2_move 27 = .ok (.iconst 2, 1) := by decide +kernel
theorem dX2_move_28 : decode cX2_move 28 = .ok (.invokevirtual 63, 3) := by decide +kernel
theorem dX2_move_31 : decode cX2_move 31 = .ok (.invokevirtual 66, 3) := by decide +kernel
theorem dX2_move_34 : decode cX2_move 34 = .ok (.pop, 1) := by decide +kernel
theorem dX2_move_35 : decode cX2_move 35 = .ok (.iinc 2 1, 3) := by decide +kernel
theorem dX2_move_38 : decode cX2_move 38 = .ok (.goto (-20), 3) := by decide +kernel
theorem dX2_move_41 : decode cX2_move 41 = .ok (.iconst 0, 1) := by decide +kernel
theorem dX2_move_42 : decode cX2_move 42 = .ok (.istore_n 2, 1) := by decide +kernel
theorem dX2_move_43 : decode cX2_move 43 = .ok (.iload_n 2, 1) := by decide +kernel
theorem dX2_move_44 : decode cX2_move 44 = .ok (.iconst 3, 1) := by decide +kernel
theorem dX2_move_45 : decode cX2_move 45 = .ok (.if_icmp .ge 50, 3) := by decide +kernel
theorem dX2_move_48 : decode cX2_move 48 = .ok (.aload_n 0, 1) := by decide +kernel
theorem dX2_move_49 : decode cX2_move 49 = .ok (.iconst 3, 1) := by decide +kernel
theorem dX2_move_50 : decode cX2_move 50 = .ok (.iload_n 2, 1) := by decide +kernel
theorem dX2_move_51 : decode cX2_move 51 = .ok (.iadd, 1) := by decide +kernel
theorem dX2_move_52 : decode cX2_move 52 = .ok (.aload_n 0, 1) := by decide +kernel
theorem dX2_move_53 : decode cX2_move 53 = .ok (.iconst 3, 1) := by decide +kernel
theorem dX2_move_54 : decode cX2_move 54 = .ok (.iconst 4, 1) := by decide +kernel
theorem dX2_move_55 : decode cX2_move 55 = .ok (.invokevirtual 63, 3) := by decide +kernel
theorem dX2_move_58 : decode cX2_move 58 = .ok (.invokevirtual 66, 3) := by decide +kernel
theorem dX2_move_61 : decode cX2_move 61 = .ok (.ifCond .eq 28, 3) := by decide +kernel
theorem dX2_move_64 : decode cX2_move 64 = .ok (.aload_n 0, 1) := by decide +kernel
theorem dX2_move_65 : decode cX2_move 65 = .ok (.getfield 15, 3) := by decide +kernel
theorem dX2_move_68 : decode cX2_move 68 = .ok (.iload_n 2, 1) := by decide +kernel
theorem dX2_move_69 : decode cX2_move 69 = .ok (.iaload, 1) := by decide +kernel
theorem dX2_move_70 : decode cX2_move 70 = .ok (.aload_n 0, 1) := by decide +kernel
theorem dX2_move_71 : decode cX2_move 71 = .ok (.getfield 9, 3) := by decide +kernel
theorem dX2_move_74 : decode cX2_move 74 = .ok (.iload_n 2, 1) := by decide +kernel
theorem dX2_move_75 : decode cX2_move 75 = .ok (.iaload, 1) := by decide +kernel
theorem dX2_move_76 : decode cX2_move 76 = .ok (.if_icmp .eq 13, 3) := by decide +kernel
theorem dX2_move_79 : decode cX2_move 79 = .ok (.aload_n 0, 1) := by decide +kernel
theorem dX2_move_80 : decode cX2_move 80 = .ok (.dup, 1) := by decide +kernel
theorem dX2_move_81 : decode cX2_move 81 = .ok (.getfield 47, 3) := by decide +kernel
theorem dX2_move_84 : decode cX2_move 84 = .ok (.iconst 1, 1) := by decide +kernel
theorem dX2_move_85 : decode cX2_move 85 = .ok (.iadd, 1) := by decide +kernel
theorem dX2_move_86 : decode cX2_move 86 = .ok (.putfield 47, 3) := by decide +kernel
theorem dX2_move_89 : decode cX2_move 89 = .ok (.iinc 2 1, 3) := by decide +kernel
theorem dX2_move_92 : decode cX2_move 92 = .ok (.goto (-49), 3) := by decide +kernel
theorem dX2_move_95 : decode cX2_move 95 = .ok (.return_, 1) := by decide +kernel
theorem dX2_moveSwitch_0 : decode cX2_moveSwitch 0 = .ok (.aload_n 0, 1) := by decide +kernel
theorem dX2_moveSwitch_1 : decode cX2_moveSwitch 1 = .ok (.getfield 38, 3) := by decide +kernel
theorem dX2_moveSwitch_4 : decode cX2_moveSwitch 4 = .ok (.ifCond .ne 20, 3) := by decide +kernel
theorem dX2_moveSwitch_7 : decode cX2_moveSwitch 7 = .ok (.aload_n 0, 1) := by decide +kernel
theorem dX2_moveSwitch_8 : decode cX2_moveSwitch 8 = .ok (.aload_n 0, 1) := by decide +kernel
theorem dX2_moveSwitch_9 : decode cX2_moveSwitch 9 = .ok (.getfield 35, 3) := by decide +kernel
theorem dX2_moveSwitch_12 : decode cX2_moveSwitch 12 = .ok (.iconst 2, 1) := by decide +kernel
theorem dX2_moveSwitch_13 : decode cX2_moveSwitch 13 = .ok (.isub, 1) := by decide +kernel
theorem dX2_moveSwitch_14 : decode cX2_moveSwitch 14 = .ok (.iconst 0, 1) := by decide +kernel
theorem dX2_moveSwitch_15 : decode cX2_moveSwitch 15 = .ok (.invokestatic 50, 3) := by decide +kernel
theorem dX2_moveSwitch_18 : decode cX2_moveSwitch 18 = .ok (.putfield 35, 3) := by decide +kernel
theorem dX2_moveSwitch_21 : decode cX2_moveSwitch 21 = .ok (.goto 40, 3) := by decide +kernel
theorem dX2_moveSwitch_24 : decode cX2_moveSwitch 24 = .ok (.aload_n 0, 1) := by decide +kernel
theorem dX2_moveSwitch_25 : decode cX2_moveSwitch 25 = .ok (.getfield 35, 3) := by decide +kernel
theorem dX2_moveSwitch_28 : decode cX2_moveSwitch 28 = .ok (.bipush 24, 2) := by decide +kernel
theorem dX2_moveSwitch_30 : decode cX2_moveSwitch 30 = .ok (.if_icmp .ge 21, 3) := by decide +kernel
theorem dX2_moveSwitch_33 : decode cX2_moveSwitch 33 = .ok (.aload_n 0, 1) := by decide +kernel
theorem dX2_moveSwitch_34 : decode cX2_moveSwitch 34 = .ok (.aload_n 0, 1) := by decide +kernel
theorem dX2_moveSwitch_35 : decode cX2_moveSwitch 35 = .ok (.getfield 35, 3) := by decide +kernel
theorem dX2_moveSwitch_38 : decode cX2_moveSwitch 38 = .ok (.iconst 3, 1) := by decide +kernel
theorem dX2_moveSwitch_39 : decode cX2_moveSwitch 39 = .ok (.iadd, 1) := by decide +kernel
theorem dX2_moveSwitch_40 : decode cX2_moveSwitch 40 = .ok (.bipush 24, 2) := by decide +kernel
theorem dX2_moveSwitch_42 : decode cX2_moveSwitch 42 = .ok (.invokestatic 70, 3) := by decide +kernel
theorem dX2_moveSwitch_45 : decode cX2_moveSwitch 45 = .ok (.putfield 35, 3) := by decide +kernel
theorem dX2_moveSwitch_48 : decode cX2_moveSwitch 48 = .ok (.goto 13, 3) := by decide +kernel
theorem dX2_moveSwitch_51 : decode cX2_moveSwitch 51 = .ok (.aload_n 0, 1) := by decide +kernel
theorem dX2_moveSwitch_52 : decode cX2_moveSwitch 52 = .ok (.dup, 1) := by decide +kernel
theorem dX2_moveSwitch_53 : decode cX2_moveSwitch 53 = .ok (.getfield 38, 3) := by decide +kernel
theorem dX2_moveSwitch_56 : decode cX2_moveSwitch 56 = .ok (.iconst 1, 1) := by decide +kernel
theorem dX2_moveSwitch_57 : decode cX2_moveSwitch 57 = .ok (.isub, 1) := by decide +kernel
theorem dX2_moveSwitch_58 : decode cX2_moveSwitch 58 = .ok (.putfield 38, 3) := by decide +kernel
theorem dX2_moveSwitch_61 : decode cX2_moveSwitch 61 = .ok (.return_, 1) := by decide +kernel
theorem dX2_movePressures_0 : decode cX2_movePressures 0 = .ok (.aload_n 0, 1) := by decide +kernel
theorem dX2_movePressures_1 : decode cX2_movePressures 1 = .ok (.iconst 0, 1) := by decide +kernel
theorem dX2_movePressures_2 : decode cX2_movePressures 2 = .ok (.invokevirtual 73, 3) := by decide +kernel
theorem dX2_movePressures_5 : decode cX2_movePressures 5 = .ok (.istore_n 2, 1) := by decide +kernel
theorem dX2_movePressures_6 : decode cX2_movePressures 6 = .ok (.aload_n 0, 1) := by decide +kernel
theorem dX2_movePressures_7 : decode cX2_movePressures 7 = .ok (.iconst 0, 1) := by decide +kernel
theorem dX2_movePressures_8 : decode cX2_movePressures 8 = .ok (.aload_n 0, 1) := by decide +kernel
theorem dX2_movePressures_9 : decode cX2_movePressures 9 = .ok (.iconst 0, 1) := by decide +kernel
theorem dX2_movePressures_10 : decode cX2_movePressures 10 = .ok (.iload_n 1, 1) := by decide +kernel
theorem dX2_movePressures_11 : decode cX2_movePressures 11 = .ok (.iconst 0, 1) := by decide +kernel
theorem dX2_movePressures_12 : decode cX2_movePressures 12 = .ok (.invokestatic 77, 3) := by decide +kernel
theorem dX2_movePressures_15 : decode cX2_movePressures 15 = .ok (.ifCond .eq 16, 3) := by decide +kernel
theorem dX2_movePressures_18 : decode cX2_movePressures 18 = .ok (.aload_n 0, 1) := by decide +kernel
theorem dX2_movePressures_19 : decode cX2_movePressures 19 = .ok (.getfield 35, 3) := by decide +kernel
theorem dX2_movePressures_22 : decode cX2_movePressures 22 = .ok (.bipush 24, 2) := by decide +kernel
theorem dX2_movePressures_24 : decode cX2_movePressures 24 = .ok (.if_icmp .ne 7, 3) := by decide +kernel
theorem dX2_movePressures_27 : decode cX2_movePressures 27 = .ok (.iconst 1, 1) := by decide +kernel
theorem dX2_movePressures_28 : decode cX2_movePressures 28 = .ok (.goto 4, 3) := by decide +kernel
theorem dX2_movePressures_31 : decode cX2_movePressures 31 = .ok (.iconst 0, 1) := by decide +kernel
theorem dX2_movePressures_32 : decode cX2_movePressures 32 = .ok (.iconst 1, 1) := by decide +kernel
theorem dX2_movePressures_33 : decode cX2_movePressures 33 = .ok (.invokevirtual 80, 3) := by decide +kernel
theorem dX2_movePressures_36 : decode cX2_movePressures 36 = .ok (.invokevirtual 84, 3) := by decide +kernel
theorem dX2_movePressures_39 : decode cX2_movePressures 39 = .ok (.iconst 1, 1) := by decide +kernel
theorem dX2_movePressures_40 : decode cX2_movePressures 40 = .ok (.istore_n 3, 1) := by decide +kernel
theorem dX2_movePressures_41 : decode cX2_movePressures 41 = .ok (.iload_n 3, 1) := by decide +kernel
theorem dX2_movePressures_42 : decode cX2_movePressures 42 = .ok (.iconst 5, 1) := by decide +kernel
theorem dX2_movePressures_43 : decode cX2_movePressures 43 = .ok (.if_icmp .ge 37, 3) := by decide +kernel
theorem dX2_movePressures_46 : decode cX2_movePressures 46 = .ok (.aload_n 0, 1) := by decide +kernel
theorem dX2_movePressures_47 : decode cX2_movePressures 47 = .ok (.iload_n 3, 1) := by decide +kernel
theorem dX2_movePressures_48 : decode cX2_movePressures 48 = .ok (.aload_n 0, 1) := by decide +kernel
theorem dX2_movePressures_49 : decode cX2_movePressures 49 = .ok (.iload_n 3, 1) := by decide +kernel
theorem dX2_movePressures_50 : decode cX2_movePressures 50 = .ok (.iload_n 1, 1) := by decide +kernel
theorem dX2_movePressures_51 : decode cX2_movePressures 51 = .ok (.iload_n 3, 1) := by decide +kernel
theorem dX2_movePressures_52 : decode cX2_movePressures 52 = .ok (.invokestatic 77, 3) := by decide +kernel
theorem dX2_movePressures_55 : decode cX2_movePressures 55 = .ok (.ifCond .eq 11, 3) := by decide +kernel
theorem dX2_movePressures_58 : decode cX2_movePressures 58 = .ok (.iload_n 2, 1) := by decide +kernel
theorem dX2_movePressures_59 : decode cX2_movePressures 59 = .ok (.ifCond .eq 7, 3) := by decide +kernel
theorem dX2_movePressures_62 : decode cX2_movePressures 62 = .ok (.iconst 1, 1) := by decide +kernel
theorem dX2_movePressures_63 : decode cX2_movePressures 63 = .ok (.goto 4, 3) := by decide +kernel
theorem dX2_movePressures_66 : decode cX2_movePressures 66 = .ok (.iconst 0, 1) := by decide +kernel
theorem dX2_movePressures_67 : decode cX2_movePressures 67 = .ok (.iload_n 2, 1) := by decide +kernel
theorem dX2_movePressures_68 : decode cX2_movePressures 68 = .ok (.invokevirtual 80, 3) := by decide +kernel
theorem dX2_movePressures_71 : decode cX2_movePressures 71 = .ok (.invokevirtual 84, 3) := by decide +kernel
theorem dX2_movePressures_74 : decode cX2_movePressures 74 = .ok (.iinc 3 1, 3) := by decide +kernel
theorem dX2_movePressures_77 : decode cX2_movePressures 77 = .ok (.goto (-36), 3) := by decide +kernel
theorem dX2_movePressures_80 : decode cX2_movePressures 80 = .ok (.return_, 1) := by decide +kernel
theorem dX2_fed_0 : decode cX2_fed 0 = .ok (.aload_n 0, 1) := by decide +kernel
theorem dX2_fed_1 : decode cX2_fed 1 = .ok (.getfield 24, 3) := by decide +kernel
theorem dX2_fed_4 : decode cX2_fed 4 = .ok (.iload_n 1, 1) := by decide +kernel
theorem dX2_fed_5 : decode cX2_fed 5 = .ok (.iaload, 1) := by decide +kernel
theorem dX2_fed_6 : decode cX2_fed 6 = .ok (.iconst 1, 1) := by decide +kernel
theorem dX2_fed_7 : decode cX2_fed 7 = .ok (.if_icmp .ne 5, 3) := by decide +kernel
theorem dX2_fed_10 : decode cX2_fed 10 = .ok (.iconst 0, 1) := by decide +kernel
theorem dX2_fed_11 : decode cX2_fed 11 = .ok (.ireturn, 1) := by decide +kernel
theorem dX2_fed_12 : decode cX2_fed 12 = .ok (.aload_n 0, 1) := by decide +kernel
theorem dX2_fed_13 : decode cX2_fed 13 = .ok (.getfield 24, 3) := by decide +kernel
theorem dX2_fed_16 : decode cX2_fed 16 = .ok (.iload_n 1, 1) := by decide +kernel
theorem dX2_fed_17 : decode cX2_fed 17 = .ok (.iaload, 1) := by decide +kernel
theorem dX2_fed_18 : decode cX2_fed 18 = .ok (.iconst 2, 1) := by decide +kernel
theorem dX2_fed_19 : decode cX2_fed 19 = .ok (.if_icmp .ne 7, 3) := by decide +kernel
theorem dX2_fed_22 : decode cX2_fed 22 = .ok (.iload_n 3, 1) := by decide +kernel
theorem dX2_fed_23 : decode cX2_fed 23 = .ok (.goto 4, 3) := by decide +kernel
theorem dX2_fed_26 : decode cX2_fed 26 = .ok (.iload_n 2, 1) := by decide +kernel
theorem dX2_fed_27 : decode cX2_fed 27 = .ok (.ireturn, 1) := by decide +kernel
theorem dX2_changePressure_0 : decode cX2_changePressure 0 = .ok (.aload_n 0, 1) := by decide +kernel
theorem dX2_changePressure_1 : decode cX2_changePressure 1 = .ok (.getfield 21, 3) := by decide +kernel
theorem dX2_changePressure_4 : decode cX2_changePressure 4 = .ok (.iload_n 1, 1) := by decide +kernel
theorem dX2_changePressure_5 : decode cX2_changePressure 5 = .ok (.iload_n 2, 1) := by decide +kernel
theorem dX2_changePressure_6 : decode cX2_changePressure 6 = .ok (.ifCond .eq 21, 3) := by decide +kernel
theorem dX2_changePressure_9 : decode cX2_changePressure 9 = .ok (.aload_n 0, 1) := by decide +kernel
theorem dX2_changePressure_10 : decode cX2_changePressure 10 = .ok (.getfield 21, 3) := by decide +kernel
theorem dX2_changePressure_13 : decode cX2_changePressure 13 = .ok (.iload_n 1, 1) := by decide +kernel
theorem dX2_changePressure_14 : decode cX2_changePressure 14 = .ok (.iaload, 1) := by decide +kernel
theorem dX2_changePressure_15 : decode cX2_changePressure 15 = .ok (.bipush 36, 2) := by decide +kernel
theorem dX2_changePressure_17 : decode cX2_changePressure 17 = .ok (.iadd, 1) := by decide +kernel
theorem dX2_changePressure_18 : decode cX2_changePressure 18 = .ok (.sipush 360, 3) := by decide +kernel
theorem dX2_changePressure_21 : decode cX2_changePressure 21 = .ok (.invokestatic 70, 3) := by decide +kernel
theorem dX2_changePressure_24 : decode cX2_changePressure 24 = .ok (.goto 16, 3) := by decide +kernel
theorem dX2_changePressure_27 : decode cX2_changePressure 27 = .ok (.aload_n 0, 1) := by decide +kernel
theorem dX2_changePressure_28 : decode cX2_changePressure 28 = .ok (.getfield 21, 3) := by decide +kernel
theorem dX2_changePressure_31 : decode cX2_changePressure 31 = .ok (.iload_n 1, 1) := by decide +kernel
theorem dX2_changePressure_32 : decode cX2_changePressure 32 = .ok (.iaload, 1) := by decide +kernel
theorem dX2_changePressure_33 : decode cX2_changePressure 33 = .ok (.bipush 10, 2) := by decide +kernel
theorem dX2_changePressure_35 : decode cX2_changePressure 35 = .ok (.isub, 1) := by decide +kernel
theorem dX2_changePressure_36 : decode cX2_changePressure 36 = .ok (.iconst 0, 1) := by decide +kernel
theorem dX2_changePressure_37 : decode cX2_changePressure 37 = .ok (.invokestatic 50, 3) := by decide +kernel
theorem dX2_changePressure_40 : decode cX2_changePressure 40 = .ok (.iastore, 1) := by decide +kernel
theorem dX2_changePressure_41 : decode cX2_changePressure 41 = .ok (.return_, 1) := by decide +kernel
theorem dX2_full_0 : decode cX2_full 0 = .ok (.aload_n 0, 1) := by decide +kernel
theorem dX2_full_1 : decode cX2_full 1 = .ok (.getfield 21, 3) := by decide +kernel
theorem dX2_full_4 : decode cX2_full 4 = .ok (.iload_n 1, 1) := by decide +kernel
theorem dX2_full_5 : decode cX2_full 5 = .ok (.iaload, 1) := by decide +kernel
theorem dX2_full_6 : decode cX2_full 6 = .ok (.sipush 360, 3) := by decide +kernel
theorem dX2_full_9 : decode cX2_full 9 = .ok (.if_icmp .ne 7, 3) := by decide +kernel
theorem dX2_full_12 : decode cX2_full 12 = .ok (.iconst 1, 1) := by decide +kernel
theorem dX2_full_13 : decode cX2_full 13 = .ok (.goto 4, 3) := by decide +kernel
theorem dX2_full_16 : decode cX2_full 16 = .ok (.iconst 0, 1) := by decide +kernel
theorem dX2_full_17 : decode cX2_full 17 = .ok (.ireturn, 1) := by decide +kernel
theorem dX2_push_0 : decode cX2_push 0 = .ok (.aload_n 0, 1) := by decide +kernel
theorem dX2_push_1 : decode cX2_push 1 = .ok (.iload_n 1, 1) := by decide +kernel
theorem dX2_push_2 : decode cX2_push 2 = .ok (.invokevirtual 73, 3) := by decide +kernel
theorem dX2_push_5 : decode cX2_push 5 = .ok (.invokestatic 88, 3) := by decide +kernel
theorem dX2_push_8 : decode cX2_push 8 = .ok (.aload_n 0, 1) := by decide +kernel
theorem dX2_push_9 : decode cX2_push 9 = .ok (.iload_n 2, 1) := by decide +kernel
theorem dX2_push_10 : decode cX2_push 10 = .ok (.invokevirtual 73, 3) := by decide +kernel
theorem dX2_push_13 : decode cX2_push 13 = .ok (.invokestatic 88, 3) := by decide +kernel
theorem dX2_push_16 : decode cX2_push 16 = .ok (.isub, 1) := by decide +kernel
theorem dX2_push_17 : decode cX2_push 17 = .ok (.ireturn, 1) := by decide +kernel
theorem dX2_shift_0 : decode cX2_shift 0 = .ok (.aload_n 0, 1) := by decide +kernel
theorem dX2_shift_1 : decode cX2_shift 1 = .ok (.getfield 15, 3) := by decide +kernel
theorem dX2_shift_4 : decode cX2_shift 4 = .ok (.iload_n 1, 1) := by decide +kernel
theorem dX2_shift_5 : decode cX2_shift 5 = .ok (.iaload, 1) := by decide +kernel
theorem dX2_shift_6 : decode cX2_shift 6 = .ok (.iload_n 2, 1) := by decide +kernel
theorem dX2_shift_7 : decode cX2_shift 7 = .ok (.iadd, 1) := by decide +kernel
theorem dX2_shift_8 : decode cX2_shift 8 = .ok (.istore_n 3, 1) := by decide +kernel
theorem dX2_shift_9 : decode cX2_shift 9 = .ok (.iload_n 2, 1) := by decide +kernel
theorem dX2_shift_10 : decode cX2_shift 10 = .ok (.ifCond .eq 27, 3) := by decide +kernel
theorem dX2_shift_13 : decode cX2_shift 13 = .ok (.aload_n 0, 1) := by decide +kernel
theorem dX2_shift_14 : decode cX2_shift 14 = .ok (.getfield 18, 3) := by decide +kernel
theorem dX2_shift_17 : decode cX2_shift 17 = .ok (.iload_n 1, 1) := by decide +kernel
theorem dX2_shift_18 : decode cX2_shift 18 = .ok (.iaload, 1) := by decide +kernel
theorem dX2_shift_19 : decode cX2_shift 19 = .ok (.iconst 1, 1) := by decide +kernel
theorem dX2_shift_20 : decode cX2_shift 20 = .ok (.if_icmp .eq 17, 3) := by decide +kernel
theorem dX2_shift_23 : decode cX2_shift 23 = .ok (.iload_n 3, 1) := by decide +kernel
theorem dX2_shift_24 : decode cX2_shift 24 = .ok (.ifCond .lt 13, 3) := by decide +kernel
theorem dX2_shift_27 : decode cX2_shift 27 = .ok (.iload_n 3, 1) := by decide +kernel
theorem dX2_shift_28 : decode cX2_shift 28 = .ok (.aload_n 0, 1) := by decide +kernel
theorem dX2_shift_29 : decode cX2_shift 29 = .ok (.getfield 9, 3) := by decide +kernel
theorem dX2_shift_32 : decode cX2_shift 32 = .ok (.iload_n 1, 1) := by decide +kernel
theorem dX2_shift_33 : decode cX2_shift 33 = .ok (.iaload, 1) := by decide +kernel
theorem dX2_shift_34 : decode cX2_shift 34 = .ok (.if_icmp .le 5, 3) := by decide +kernel
theorem dX2_shift_37 : decode cX2_shift 37 = .ok (.iconst 0, 1) := by decide +kernel
theorem dX2_shift_38 : decode cX2_shift 38 = .ok (.ireturn, 1) := by decide +kernel
theorem dX2_shift_39 : decode cX2_shift 39 = .ok (.aload_n 0, 1) := by decide +kernel
theorem dX2_shift_40 : decode cX2_shift 40 = .ok (.getfield 15, 3) := by decide +kernel
theorem dX2_shift_43 : decode cX2_shift 43 = .ok (.iload_n 1, 1) := by decide +kernel
theorem dX2_shift_44 : decode cX2_shift 44 = .ok (.iload_n 3, 1) := by decide +kernel
theorem dX2_shift_45 : decode cX2_shift 45 = .ok (.iastore, 1) := by decide +kernel
theorem dX2_shift_46 : decode cX2_shift 46 = .ok (.iconst 1, 1) := by decide +kernel
theorem dX2_shift_47 : decode cX2_shift 47 = .ok (.ireturn, 1) := by decide +kernel
theorem dX3_init_0 : decode cX3_init 0 = .ok (.aload_n 0, 1) := by decide +kernel
theorem dX3_init_1 : decode cX3_init 1 = .ok (.invokespecial 3, 3) := by decide +kernel
theorem dX3_init_4 : decode cX3_init 4 = .ok (.aload_n 0, 1) := by decide +kernel
theorem dX3_init_5 : decode cX3_init 5 = .ok (.bipush 18, 2) := by decide +kernel
theorem dX3_init_7 : decode cX3_init 7 = .ok (.newarray .int, 2) := by decide +kernel
theorem dX3_init_9 : decode cX3_init 9 = .ok (.putfield 9, 3) := by decide +kernel
theorem dX3_init_12 : decode cX3_init 12 = .ok (.aload_n 0, 1) := by decide +kernel
theorem dX3_init_13 : decode cX3_init 13 = .ok (.bipush 54, 2) := by decide +kernel
theorem dX3_init_15 : decode cX3_init 15 = .ok (.newarray .int, 2) := by decide +kernel
theorem dX3_init_17 : decode cX3_init 17 = .ok (.putfield 15, 3) := by decide +kernel
theorem dX3_init_20 : decode cX3_init 20 = .ok (.return_, 1) := by decide +kernel
theorem dX3_feel_0 : decode cX3_feel 0 = .ok (.aload_n 0, 1) := by decide +kernel
theorem dX3_feel_1 : decode cX3_feel 1 = .ok (.getfield 9, 3) := by decide +kernel
theorem dX3_feel_4 : decode cX3_feel 4 = .ok (.iconst 0, 1) := by decide +kernel
theorem dX3_feel_5 : decode cX3_feel 5 = .ok (.aload_n 1, 1) := by decide +kernel
theorem dX3_feel_6 : decode cX3_feel 6 = .ok (.getfield 18, 3) := by decide +kernel
theorem dX3_feel_9 : decode cX3_feel 9 = .ok (.iastore, 1) := by decide +kernel
theorem dX3_feel_10 : decode cX3_feel 10 = .ok (.aload_n 0, 1) := by decide +kernel
theorem dX3_feel_11 : decode cX3_feel 11 = .ok (.getfield 9, 3) := by decide +kernel
theorem dX3_feel_14 : decode cX3_feel 14 = .ok (.iconst 1, 1) := by decide +kernel
theorem dX3_feel_15 : decode cX3_feel 15 = .ok (.aload_n 1, 1) := by decide +kernel
theorem dX3_feel_16 : decode cX3_feel 16 = .ok (.getfield 24, 3) := by decide +kernel
theorem dX3_feel_19 : decode cX3_feel 19 = .ok (.bipush 24, 2) := by decide +kernel
theorem dX3_feel_21 : decode cX3_feel 21 = .ok (.if_icmp .ne 7, 3) := by decide +kernel
theorem dX3_feel_24 : decode cX3_feel 24 = .ok (.iconst 1, 1) := by decide +kernel
theorem dX3_feel_25 : decode cX3_feel 25 = .ok (.goto 4, 3) := by decide +kernel
theorem dX3_feel_28 : decode cX3_feel 28 = .ok (.iconst 0, 1) := by decide +kernel
theorem dX3_feel_29 : decode cX3_feel 29 = .ok (.invokestatic 27, 3) := by decide +kernel
theorem dX3_feel_32 : decode cX3_feel 32 = .ok (.iastore, 1) := by decide +kernel
theorem dX3_feel_33 : decode cX3_feel 33 = .ok (.aload_n 0, 1) := by decide +kernel
theorem dX3_feel_34 : decode cX3_feel 34 = .ok (.getfield 9, 3) := by decide +kernel
theorem dX3_feel_37 : decode cX3_feel 37 = .ok (.iconst 2, 1) := by decide +kernel
theorem dX3_feel_38 : decode cX3_feel 38 = .ok (.aload_n 1, 1) := by decide +kernel
theorem dX3_feel_39 : decode cX3_feel 39 = .ok (.getfield 31, 3) := by decide +kernel
theorem dX3_feel_42 : decode cX3_feel 42 = .ok (.iconst 0, 1) := by decide +kernel
theorem dX3_feel_43 : decode cX3_feel 43 = .ok (.iaload, 1) := by decide +kernel
theorem dX3_feel_44 : decode cX3_feel 44 = .ok (.sipush 360, 3) := by decide +kernel
theorem dX3_feel_47 : decode cX3_feel 47 = .ok (.if_icmp .ne 7, 3) := by decide +kernel
theorem dX3_feel_50 : decode cX3_feel 50 = .ok (.iconst 1, 1) := by decide +kernel
theorem dX3_feel_51 : decode cX3_feel 51 = .ok (.goto 4, 3) := by decide +kernel
theorem dX3_feel_54 : decode cX3_feel 54 = .ok (.iconst 0, 1) := by decide +kernel
theorem dX3_feel_55 : decode cX3_feel 55 = .ok (.invokestatic 27, 3) := by decide +kernel
theorem dX3_feel_58 : decode cX3_feel 58 = .ok (.iastore, 1) := by decide +kernel
theorem dX3_feel_59 : decode cX3_feel 59 = .ok (.iconst 0, 1) := by decide +kernel
theorem dX3_feel_60 : decode cX3_feel 60 = .ok (.istore_n 2, 1) := by decide +kernel
theorem dX3_feel_61 : decode cX3_feel 61 = .ok (.iload_n 2, 1) := by decide +kernel
theorem dX3_feel_62 : decode cX3_feel 62 = .ok (.iconst 3, 1) := by decide +kernel
theorem dX3_feel_63 : decode cX3_feel 63 = .ok (.if_icmp .ge 148, 3) := by decide +kernel
theorem dX3_feel_66 : decode cX3_feel 66 = .ok (.iconst 3, 1) := by decide +kernel
theorem dX3_feel_67 : decode cX3_feel 67 = .ok (.iload_n 2, 1) := by decide +kernel
theorem dX3_feel_68 : decode cX3_feel 68 = .ok (.iadd, 1) := by decide +kernel
theorem dX3_feel_69 : decode cX3_feel 69 = .ok (.istore_n 3, 1) := by decide +kernel
theorem dX3_feel_70 : decode cX3_feel 70 = .ok (.aload_n 0, 1) := by decide +kernel
theorem dX3_feel_71 : decode cX3_feel 71 = .ok (.getfield 9, 3) := by decide +kernel
theorem dX3_feel_74 : decode cX3_feel 74 = .ok (.iconst 3, 1) := by decide +kernel
theorem dX3_feel_75 : decode cX3_feel 75 = .ok (.iload_n 2, 1) := by decide +kernel
theorem dX3_feel_76 : decode cX3_feel 76 = .ok (.iadd, 1) := by decide +kernel
theorem dX3_feel_77 : decode cX3_feel 77 = .ok (.aload_n 1, 1) := by decide +kernel
theorem dX3_feel_78 : decode cX3_feel 78 = .ok (.getfield 34, 3) := by decide +kernel
theorem dX3_feel_81 : decode cX3_feel 81 = .ok (.iload_n 2, 1) := by decide +kernel
theorem dX3_feel_82 : decode cX3_feel 82 = .ok (.iaload, 1) := by decide +kernel
theorem dX3_feel_83 : decode cX3_feel 83 = .ok (.ifCond .ne 7, 3) := by decide +kernel
theorem dX3_feel_86 : decode cX3_feel 86 = .ok (.iconst 1, 1) := by decide +kernel
theorem dX3_feel_87 : decode cX3_feel 87 = .ok (.goto 4, 3) := by decide +kernel
theorem dX3_feel_90 : decode cX3_feel 90 = .ok (.iconst 0, 1) := by decide +kernel
theorem dX3_feel_91 : decode cX3_feel 91 = .ok (.invokestatic 27, 3) := by decide +kernel
theorem dX3_feel_94 : decode cX3_feel 94 = .ok (.iastore, 1) := by decide +kernel
theorem dX3_feel_95 : decode cX3_feel 95 = .ok (.aload_n 0, 1) := by decide +kernel
theorem dX3_feel_96 : decode cX3_feel 96 = .ok (.getfield 9, 3) := by decide +kernel
theorem dX3_feel_99 : decode cX3_feel 99 = .ok (.bipush 6, 2) := by decide +kernel
theorem dX3_feel_101 : decode cX3_feel 101 = .ok (.iload_n 2, 1) := by decide +kernel
theorem dX3_feel_102 : decode cX3_feel 102 = .ok (.iadd, 1) := by decide +kernel
theorem dX3_feel_103 : decode cX3_feel 103 = .ok (.aload_n 1, 1) := by decide +kernel
theorem dX3_feel_104 : decode cX3_feel 104 = .ok (.getfield 34, 3) := by decide +kernel
theorem dX3_feel_107 : decode cX3_feel 107 = .ok (.iload_n 2, 1) := by decide +kernel
theorem dX3_feel_108 : decode cX3_feel 108 = .ok (.iaload, 1) := by decide +kernel
theorem dX3_feel_109 : decode cX3_feel 109 = .ok (.aload_n 1, 1) := by decide +kernel
theorem dX3_feel_110 : decode cX3_feel 110 = .ok (.getfield 37, 3) := by decide +kernel
theorem dX3_feel_113 : decode cX3_feel 113 = .ok (.iload_n 2, 1) := by decide +kernel
theorem dX3_feel_114 : decode cX3_feel 114 = .ok (.iaload, 1) := by decide +kernel
theorem dX3_feel_115 : decode cX3_feel 115 = .ok (.if_icmp .ne 7, 3) := by decide +kernel
theorem dX3_feel_118 : decode cX3_feel 118 = .ok (.iconst 1, 1) := by decide +kernel
theorem dX3_feel_119 : decode cX3_feel 119 = .ok (.goto 4, 3) := by decide +kernel
theorem dX3_feel_122 : decode cX3_feel 122 = .ok (.iconst 0, 1) := by decide +kernel
theorem dX3_feel_123 : decode cX3_feel 123 = .ok (.invokestatic 27, 3) := by decide +kernel
theorem dX3_feel_126 : decode cX3_feel 126 = .ok (.iastore, 1) := by decide +kernel
theorem dX3_feel_127 : decode cX3_feel 127 = .ok (.aload_n 0, 1) := by decide +kernel
theorem dX3_feel_128 : decode cX3_feel 128 = .ok (.getfield 9, 3) := by decide +kernel
theorem dX3_feel_131 : decode cX3_feel 131 = .ok (.bipush 9, 2) := by decide +kernel
theorem dX3_feel_133 : decode cX3_feel 133 = .ok (.iload_n 2, 1) := by decide +kernel
theorem dX3_feel_134 : decode cX3_feel 134 = .ok (.iadd, 1) := by decide +kernel
theorem dX3_feel_135 : decode cX3_feel 135 = .ok (.aload_n 1, 1) := by decide +kernel
theorem dX3_feel_136 : decode cX3_feel 136 = .ok (.getfield 34, 3) := by decide +kernel
theorem dX3_feel_139 : decode cX3_feel 139 = .ok (.iload_n 3, 1) := by decide +kernel
theorem dX3_feel_140 : decode cX3_feel 140 = .ok (.iaload, 1) := by decide +kernel
theorem dX3_feel_141 : decode cX3_feel 141 = .ok (.aload_n 1, 1) := by decide +kernel
theorem dX3_feel_142 : decode cX3_feel 142 = .ok (.getfield 37, 3) := by decide +kernel
theorem dX3_feel_145 : decode cX3_feel 145 = .ok (.iload_n 3, 1) := by decide +kernel
theorem dX3_feel_146 : decode cX3_feel 146 = .ok (.iaload, 1) := by decide +kernel
theorem dX3_feel_147 : decode cX3_feel 147 = .ok (.if_icmp .ne 7, 3) := by decide +kernel
theorem dX3_feel_150 : decode cX3_feel 150 = .ok (.iconst 1, 1) := by decide +kernel
theorem dX3_feel_151 : decode cX3_feel 151 = .ok (.goto 4, 3) := by decide +kernel
theorem dX3_feel_154 : decode cX3_feel 154 = .ok (.iconst 0, 1) := by decide +kernel
theorem dX3_feel_155 : decode cX3_feel 155 = .ok (.invokestatic 27, 3) := by decide +kernel
theorem dX3_feel_158 : decode cX3_feel 158 = .ok (.iastore, 1) := by decide +kernel
theorem dX3_feel_159 : decode cX3_feel 159 = .ok (.aload_n 0, 1) := by decide +kernel
theorem dX3_feel_160 : decode cX3_feel 160 = .ok (.getfield 9, 3) := by decide +kernel
theorem dX3_feel_163 : decode cX3_feel 163 = .ok (.bipush 12, 2) := by decide +kernel
theorem dX3_feel_165 : decode cX3_feel 165 = .ok (.iload_n 2, 1) := by decide +kernel
theorem dX3_feel_166 : decode cX3_feel 166 = .ok (.iadd, 1) := by decide +kernel
theorem dX3_feel_167 : decode cX3_feel 167 = .ok (.aload_n 1, 1) := by decide +kernel
theorem dX3_feel_168 : decode cX3_feel 168 = .ok (.getfield 34, 3) := by decide +kernel
theorem dX3_feel_171 : decode cX3_feel 171 = .ok (.iload_n 3, 1) := by decide +kernel
theorem dX3_feel_172 : decode cX3_feel 172 = .ok (.iaload, 1) := by decide +kernel
theorem dX3_feel_173 : decode cX3_feel 173 = .ok (.ifCond .ne 7, 3) := by decide +kernel
theorem dX3_feel_176 : decode cX3_feel 176 = .ok (.iconst 1, 1) := by decide +kernel
theorem dX3_feel_177 : decode cX3_feel 177 = .ok (.goto 4, 3) := by decide +kernel
theorem dX3_feel_180 : decode cX3_feel 180 = .ok (.iconst 0, 1) := by decide +kernel
theorem dX3_feel_181 : decode cX3_feel 181 = .ok (.invokestatic 27, 3) := by decide +kernel
theorem dX3_feel_184 : decode cX3_feel 184 = .ok (.iastore, 1) := by decide +kernel
theorem dX3_feel_185 : decode cX3_feel 185 = .ok (.aload_n 0, 1) := by decide +kernel
theorem dX3_feel_186 : decode cX3_feel 186 = .ok (.getfield 9, 3) := by decide +kernel
theorem dX3_feel_189 : decode cX3_feel 189 = .ok (.bipush 15, 2) := by decide +kernel
theorem dX3_feel_191 : decode cX3_feel 191 = .ok (.iload_n 2, 1) := by decide +kernel
theorem dX3_feel_192 : decode cX3_feel 192 = .ok (.iadd, 1) := by decide +kernel
theorem dX3_feel_193 : decode cX3_feel 193 = .ok (.aload_n 1, 1) := by decide +kernel
theorem dX3_feel_194 : decode cX3_feel 194 = .ok (.getfield 40, 3) := by decide +kernel
theorem dX3_feel_197 : decode cX3_feel 197 = .ok (.iload_n 2, 1) := by decide +kernel
theorem dX3_feel_198 : decode cX3_feel 198 = .ok (.invokestatic 43, 3) := by decide +kernel
theorem dX3_feel_201 : decode cX3_feel 201 = .ok (.invokestatic 27, 3) := by decide +kernel
theorem dX3_feel_204 : decode cX3_feel 204 = .ok (.iastore, 1) := by decide +kernel
theorem dX3_feel_205 : decode cX3_feel 205 = .ok (.iinc 2 1, 3) := by decide +kernel
theorem dX3_feel_208 : decode cX3_feel 208 = .ok (.goto (-147), 3) := by decide +kernel
theorem dX3_feel_211 : decode cX3_feel 211 = .ok (.return_, 1) := by decide +kernel
theorem dX3_told_0 : decode cX3_told 0 = .ok (.aload_n 0, 1) := by decide +kernel
theorem dX3_told_1 : decode cX3_told 1 = .ok (.getfield 15, 3) := by decide +kernel
theorem dX3_told_4 : decode cX3_told 4 = .ok (.iload_n 1, 1) := by decide +kernel
theorem dX3_told_5 : decode cX3_told 5 = .ok (.iconst 3, 1) := by decide +kernel
theorem dX3_told_6 : decode cX3_told 6 = .ok (.imul, 1) := by decide +kernel
theorem dX3_told_7 : decode cX3_told 7 = .ok (.iload_n 2, 1) := by decide +kernel
theorem dX3_told_8 : decode cX3_told 8 = .ok (.iadd, 1) := by decide +kernel
theorem dX3_told_9 : decode cX3_told 9 = .ok (.iaload, 1) := by decide +kernel
theorem dX3_told_10 : decode cX3_told 10 = .ok (.tableswitch 39 1 3 #[26, 28, 30], 26) := by decide +kernel
theorem dX3_told_36 : decode cX3_told 36 = .ok (.iconst 0, 1) := by decide +kernel
theorem dX3_told_37 : decode cX3_told 37 = .ok (.ireturn, 1) := by decide +kernel
theorem dX3_told_38 : decode cX3_told 38 = .ok (.iconst 1, 1) := by decide +kernel
theorem dX3_told_39 : decode cX3_told 39 = .ok (.ireturn, 1) := by decide +kernel
theorem dX3_told_40 : decode cX3_told 40 = .ok (.iconst 1, 1) := by decide +kernel
theorem dX3_told_41 : decode cX3_told 41 = .ok (.aload_n 0, 1) := by decide +kernel
theorem dX3_told_42 : decode cX3_told 42 = .ok (.getfield 9, 3) := by decide +kernel
theorem dX3_told_45 : decode cX3_told 45 = .ok (.iload_n 1, 1) := by decide +kernel
theorem dX3_told_46 : decode cX3_told 46 = .ok (.iaload, 1) := by decide +kernel
theorem dX3_told_47 : decode cX3_told 47 = .ok (.isub, 1) := by decide +kernel
theorem dX3_told_48 : decode cX3_told 48 = .ok (.ireturn, 1) := by decide +kernel
theorem dX3_told_49 : decode cX3_told 49 = .ok (.aload_n 0, 1) := by decide +kernel
theorem dX3_told_50 : decode cX3_told 50 = .ok (.getfield 9, 3) := by decide +kernel
theorem dX3_told_53 : decode cX3_told 53 = .ok (.iload_n 1, 1) := by decide +kernel
theorem dX3_told_54 : decode cX3_told 54 = .ok (.iaload, 1) := by decide +kernel
theorem dX3_told_55 : decode cX3_told 55 = .ok (.ireturn, 1) := by decide +kernel
theorem dX3_toldBits_0 : decode cX3_toldBits 0 = .ok (.aload_n 0, 1) := by decide +kernel
theorem dX3_toldBits_1 : decode cX3_toldBits 1 = .ok (.iload_n 1, 1) := by decide +kernel
theorem dX3_toldBits_2 : decode cX3_toldBits 2 = .ok (.iconst 0, 1) := by decide +kernel
theorem dX3_toldBits_3 : decode cX3_toldBits 3 = .ok (.invokevirtual 47, 3) := by decide +kernel
theorem dX3_toldBits_6 : decode cX3_toldBits 6 = .ok (.aload_n 0, 1) := by decide +kernel
theorem dX3_toldBits_7 : decode cX3_toldBits 7 = .ok (.iload_n 1, 1) := by decide +kernel
theorem dX3_toldBits_8 : decode cX3_toldBits 8 = .ok (.iconst 1, 1) := by decide +kernel
theorem dX3_toldBits_9 : decode cX3_toldBits 9 = .ok (.invokevirtual 47, 3) := by decide +kernel
theorem dX3_toldBits_12 : decode cX3_toldBits 12 = .ok (.iconst 1, 1) := by decide +kernel
theorem dX3_toldBits_13 : decode cX3_toldBits 13 = .ok (.ishl, 1) := by decide +kernel
theorem dX3_toldBits_14 : decode cX3_toldBits 14 = .ok (.ior, 1) := by decide +kernel
theorem dX3_toldBits_15 : decode cX3_toldBits 15 = .ok (.aload_n 0, 1) := by decide +kernel
theorem dX3_toldBits_16 : decode cX3_toldBits 16 = .ok (.iload_n 1, 1) := by decide +kernel
theorem dX3_toldBits_17 : decode cX3_toldBits 17 = .ok (.iconst 2, 1) := by decide +kernel
theorem dX3_toldBits_18 : decode cX3_toldBits 18 = .ok (.invokevirtual 47, 3) := by decide +kernel
theorem dX3_toldBits_21 : decode cX3_toldBits 21 = .ok (.iconst 2, 1) := by decide +kernel
theorem dX3_toldBits_22 : decode cX3_toldBits 22 = .ok (.ishl, 1) := by decide +kernel
theorem dX3_toldBits_23 : decode cX3_toldBits 23 = .ok (.ior, 1) := by decide +kernel
theorem dX3_toldBits_24 : decode cX3_toldBits 24 = .ok (.ireturn, 1) := by decide +kernel
theorem dX4_init_0 : decode cX4_init 0 = .ok (.aload_n 0, 1) := by decide +kernel
theorem dX4_init_1 : decode cX4_init 1 = .ok (.invokespecial 3, 3) := by decide +kernel
theorem dX4_init_4 : decode cX4_init 4 = .ok (.aload_n 0, 1) := by decide +kernel
theorem dX4_init_5 : decode cX4_init 5 = .ok (.bipush 18, 2) := by decide +kernel
theorem dX4_init_7 : decode cX4_init 7 = .ok (.newarray .int, 2) := by decide +kernel
theorem dX4_init_9 : decode cX4_init 9 = .ok (.putfield 9, 3) := by decide +kernel
theorem dX4_init_12 : decode cX4_init 12 = .ok (.aload_n 0, 1) := by decide +kernel
theorem dX4_init_13 : decode cX4_init 13 = .ok (.bipush 18, 2) := by decide +kernel
theorem dX4_init_15 : decode cX4_init 15 = .ok (.newarray .int, 2) := by decide +kernel
theorem dX4_init_17 : decode cX4_init 17 = .ok (.putfield 15, 3) := by decide +kernel
theorem dX4_init_20 : decode cX4_init 20 = .ok (.iconst 0, 1) := by decide +kernel
theorem dX4_init_21 : decode cX4_init 21 = .ok (.istore_n 2, 1) := by decide +kernel
theorem dX4_init_22 : decode cX4_init 22 = .ok (.iload_n 2, 1) := by decide +kernel
theorem dX4_init_23 : decode cX4_init 23 = .ok (.bipush 18, 2) := by decide +kernel
theorem dX4_init_25 : decode cX4_init 25 = .ok (.if_icmp .ge 29, 3) := by decide +kernel
theorem dX4_init_28 : decode cX4_init 28 = .ok (.aload_n 0, 1) := by decide +kernel
theorem dX4_init_29 : decode cX4_init 29 = .ok (.getfield 9, 3) := by decide +kernel
theorem dX4_init_32 : decode cX4_init 32 = .ok (.iload_n 2, 1) := by decide +kernel
theorem dX4_init_33 : decode cX4_init 33 = .ok (.aload_n 1, 1) := by decide +kernel
theorem dX4_init_34 : decode cX4_init 34 = .ok (.getfield 18, 3) := by decide +kernel
theorem dX4_init_37 : decode cX4_init 37 = .ok (.iload_n 2, 1) := by decide +kernel
theorem dX4_init_38 : decode cX4_init 38 = .ok (.iaload, 1) := by decide +kernel
theorem dX4_init_39 : decode cX4_init 39 = .ok (.iastore, 1) := by decide +kernel
theorem dX4_init_40 : decode cX4_init 40 = .ok (.aload_n 0, 1) := by decide +kernel
theorem dX4_init_41 : decode cX4_init 41 = .ok (.getfield 15, 3) := by decide +kernel
theorem dX4_init_44 : decode cX4_init 44 = .ok (.iload_n 2, 1) := by decide +kernel
theorem dX4_init_45 : decode cX4_init 45 = .ok (.bipush 7, 2) := by decide +kernel
theorem dX4_init_47 : decode cX4_init 47 = .ok (.iastore, 1) := by decide +kernel
theorem dX4_init_48 : decode cX4_init 48 = .ok (.iinc 2 1, 3) := by decide +kernel
theorem dX4_init_51 : decode cX4_init 51 = .ok (.goto (-29), 3) := by decide +kernel
theorem dX4_init_54 : decode cX4_init 54 = .ok (.return_, 1) := by decide +kernel
theorem dX4_take_0 : decode cX4_take 0 = .ok (.iconst 0, 1) := by decide +kernel
theorem dX4_take_1 : decode cX4_take 1 = .ok (.istore_n 2, 1) := by decide +kernel
theorem dX4_take_2 : decode cX4_take 2 = .ok (.iload_n 2, 1) := by decide +kernel
theorem dX4_take_3 : decode cX4_take 3 = .ok (.bipush 18, 2) := by decide +kernel
theorem dX4_take_5 : decode cX4_take 5 = .ok (.if_icmp .ge 35, 3) := by decide +kernel
theorem dX4_take_8 : decode cX4_take 8 = .ok (.aload_n 0, 1) := by decide +kernel
theorem dX4_take_9 : decode cX4_take 9 = .ok (.getfield 15, 3) := by decide +kernel
theorem dX4_take_12 : decode cX4_take 12 = .ok (.iload_n 2, 1) := by decide +kernel
theorem dX4_take_13 : decode cX4_take 13 = .ok (.iaload, 1) := by decide +kernel
theorem dX4_take_14 : decode cX4_take 14 = .ok (.ifCond .eq 20, 3) := by decide +kernel
theorem dX4_take_17 : decode cX4_take 17 = .ok (.aload_n 0, 1) := by decide +kernel
theorem dX4_take_18 : decode cX4_take 18 = .ok (.iload_n 2, 1) := by decide +kernel
theorem dX4_take_19 : decode cX4_take 19 = .ok (.aload_n 1, 1) := by decide +kernel
theorem dX4_take_20 : decode cX4_take 20 = .ok (.iload_n 2, 1) := by decide +kernel
theorem dX4_take_21 : decode cX4_take 21 = .ok (.invokevirtual 23, 3) := by decide +kernel
theorem dX4_take_24 : decode cX4_take 24 = .ok (.aload_n 0, 1) := by decide +kernel
theorem dX4_take_25 : decode cX4_take 25 = .ok (.getfield 15, 3) := by decide +kernel
theorem dX4_take_28 : decode cX4_take 28 = .ok (.iload_n 2, 1) := by decide +kernel
theorem dX4_take_29 : decode cX4_take 29 = .ok (.iaload, 1) := by decide +kernel
theorem dX4_take_30 : decode cX4_take 30 = .ok (.iand, 1) := by decide +kernel
theorem dX4_take_31 : decode cX4_take 31 = .ok (.invokevirtual 27, 3) := by decide +kernel
theorem dX4_take_34 : decode cX4_take 34 = .ok (.iinc 2 1, 3) := by decide +kernel
theorem dX4_take_37 : decode cX4_take 37 = .ok (.goto (-35), 3) := by decide +kernel
theorem dX4_take_40 : decode cX4_take 40 = .ok (.return_, 1) := by decide +kernel
theorem dX4_takeOne_0 : decode cX4_takeOne 0 = .ok (.iload_n 2, 1) := by decide +kernel
theorem dX4_takeOne_1 : decode cX4_takeOne 1 = .ok (.aload_n 0, 1) := by decide +kernel
theorem dX4_takeOne_2 : decode cX4_takeOne 2 = .ok (.getfield 15, 3) := by decide +kernel
theorem dX4_takeOne_5 : decode cX4_takeOne 5 = .ok (.iload_n 1, 1) := by decide +kernel
theorem dX4_takeOne_6 : decode cX4_takeOne 6 = .ok (.iaload, 1) := by decide +kernel
theorem dX4_takeOne_7 : decode cX4_takeOne 7 = .ok (.if_icmp .eq 7, 3) := by decide +kernel
theorem dX4_takeOne_10 : decode cX4_takeOne 10 = .ok (.iload_n 2, 1) := by decide +kernel
theorem dX4_takeOne_11 : decode cX4_takeOne 11 = .ok (.ifCond .ne 24, 3) := by decide +kernel
theorem dX4_takeOne_14 : decode cX4_takeOne 14 = .ok (.aload_n 0, 1) := by decide +kernel
theorem dX4_takeOne_15 : decode cX4_takeOne 15 = .ok (.getfield 9, 3) := by decide +kernel
theorem dX4_takeOne_18 : decode cX4_takeOne 18 = .ok (.iload_n 1, 1) := by decide +kernel
theorem dX4_takeOne_19 : decode cX4_takeOne 19 = .ok (.iload_n 2, 1) := by decide +kernel
theorem dX4_takeOne_20 : decode cX4_takeOne 20 = .ok (.ifCond .eq 7, 3) := by decide +kernel
theorem dX4_takeOne_23 : decode cX4_takeOne 23 = .ok (.iconst 1, 1) := by decide +kernel
theorem dX4_takeOne_24 : decode cX4_takeOne 24 = .ok (.goto 4, 3) := by decide +kernel
theorem dX4_takeOne_27 : decode cX4_takeOne 27 = .ok (.iconst 0, 1) := by decide +kernel
theorem dX4_takeOne_28 : decode cX4_takeOne 28 = .ok (.invokestatic 31, 3) := by decide +kernel
theorem dX4_takeOne_31 : decode cX4_takeOne 31 = .ok (.iastore, 1) := by decide +kernel
theorem dX4_takeOne_32 : decode cX4_takeOne 32 = .ok (.goto 70, 3) := by decide +kernel
theorem dX4_takeOne_35 : decode cX4_takeOne 35 = .ok (.aload_n 0, 1) := by decide +kernel
theorem dX4_takeOne_36 : decode cX4_takeOne 36 = .ok (.getfield 15, 3) := by decide +kernel
theorem dX4_takeOne_39 : decode cX4_takeOne 39 = .ok (.iload_n 1, 1) := by decide +kernel
theorem dX4_takeOne_40 : decode cX4_takeOne 40 = .ok (.iaload, 1) := by decide +kernel
theorem dX4_takeOne_41 : decode cX4_takeOne 41 = .ok (.bipush 7, 2) := by decide +kernel
theorem dX4_takeOne_43 : decode cX4_takeOne 43 = .ok (.if_icmp .ne 52, 3) := by decide +kernel
theorem dX4_takeOne_46 : decode cX4_takeOne 46 = .ok (.aload_n 0, 1) := by decide +kernel
theorem dX4_takeOne_47 : decode cX4_takeOne 47 = .ok (.getfield 9, 3) := by decide +kernel
theorem dX4_takeOne_50 : decode cX4_takeOne 50 = .ok (.iload_n 1, 1) := by decide +kernel
theorem dX4_takeOne_51 : decode cX4_takeOne 51 = .ok (.iload_n 2, 1) := by decide +kernel
theorem dX4_takeOne_52 : decode cX4_takeOne 52 = .ok (.invokestatic 35, 3) := by decide +kernel
theorem dX4_takeOne_55 : decode cX4_takeOne 55 = .ok (.iconst 2, 1) := by decide +kernel
theorem dX4_takeOne_56 : decode cX4_takeOne 56 = .ok (.if_icmp .ne 7, 3) := by decide +kernel
theorem dX4_takeOne_59 : decode cX4_takeOne 59 = .ok (.iconst 1, 1) := by decide +kernel
theorem dX4_takeOne_60 : decode cX4_takeOne 60 = .ok (.goto 4, 3) := by decide +kernel
theorem dX4_takeOne_63 : decode cX4_takeOne 63 = .ok (.iconst 0, 1) := by decide +kernel
theorem dX4_takeOne_64 : decode cX4_takeOne 64 = .ok (.invokestatic 31, 3) := by decide +kernel
theorem dX4_takeOne_67 : decode cX4_takeOne 67 = .ok (.iastore, 1) := by decide +kernel
theorem dX4_takeOne_68 : decode cX4_takeOne 68 = .ok (.aload_n 0, 1) := by decide +kernel
theorem dX4_takeOne_69 : decode cX4_takeOne 69 = .ok (.getfield 15, 3) := by decide +kernel
theorem dX4_takeOne_72 : decode cX4_takeOne 72 = .ok (.iload_n 1, 1) := by decide +kernel
theorem dX4_takeOne_73 : decode cX4_takeOne 73 = .ok (.aload_n 0, 1) := by decide +kernel
theorem dX4_takeOne_74 : decode cX4_takeOne 74 = .ok (.getfield 9, 3) := by decide +kernel
theorem dX4_takeOne_77 : decode cX4_takeOne 77 = .ok (.iload_n 1, 1) := by decide +kernel
theorem dX4_takeOne_78 : decode cX4_takeOne 78 = .ok (.iaload, 1) := by decide +kernel
theorem dX4_takeOne_79 : decode cX4_takeOne 79 = .ok (.iconst 1, 1) := by decide +kernel
theorem dX4_takeOne_80 : decode cX4_takeOne 80 = .ok (.if_icmp .ne 7, 3) := by decide +kernel
theorem dX4_takeOne_83 : decode cX4_takeOne 83 = .ok (.iload_n 2, 1) := by decide +kernel
theorem dX4_takeOne_84 : decode cX4_takeOne 84 = .ok (.goto 7, 3) := by decide +kernel
theorem dX4_takeOne_87 : decode cX4_takeOne 87 = .ok (.bipush 7, 2) := by decide +kernel
theorem dX4_takeOne_89 : decode cX4_takeOne 89 = .ok (.iload_n 2, 1) := by decide +kernel
theorem dX4_takeOne_90 : decode cX4_takeOne 90 = .ok (.isub, 1) := by decide +kernel
theorem dX4_takeOne_91 : decode cX4_takeOne 91 = .ok (.iastore, 1) := by decide +kernel
theorem dX4_takeOne_92 : decode cX4_takeOne 92 = .ok (.goto 10, 3) := by decide +kernel
theorem dX4_takeOne_95 : decode cX4_takeOne 95 = .ok (.aload_n 0, 1) := by decide +kernel
theorem dX4_takeOne_96 : decode cX4_takeOne 96 = .ok (.getfield 15, 3) := by decide +kernel
theorem dX4_takeOne_99 : decode cX4_takeOne 99 = .ok (.iload_n 1, 1) := by decide +kernel
theorem dX4_takeOne_100 : decode cX4_takeOne 100 = .ok (.iconst 0, 1) := by decide +kernel
theorem dX4_takeOne_101 : decode cX4_takeOne 101 = .ok (.iastore, 1) := by decide +kernel
theorem dX4_takeOne_102 : decode cX4_takeOne 102 = .ok (.return_, 1) := by decide +kernel
theorem dX4_isSeen_0 : decode cX4_isSeen 0 = .ok (.aload_n 0, 1) := by decide +kernel
theorem dX4_isSeen_1 : decode cX4_isSeen 1 = .ok (.getfield 9, 3) := by decide +kernel
theorem dX4_isSeen_4 : decode cX4_isSeen 4 = .ok (.iload_n 1, 1) := by decide +kernel
theorem dX4_isSeen_5 : decode cX4_isSeen 5 = .ok (.iaload, 1) := by decide +kernel
theorem dX4_isSeen_6 : decode cX4_isSeen 6 = .ok (.iconst 1, 1) := by decide +kernel
theorem dX4_isSeen_7 : decode cX4_isSeen 7 = .ok (.if_icmp .ne 7, 3) := by decide +kernel
theorem dX4_isSeen_10 : decode cX4_isSeen 10 = .ok (.iconst 1, 1) := by decide +kernel
theorem dX4_isSeen_11 : decode cX4_isSeen 11 = .ok (.goto 4, 3) := by decide +kernel
theorem dX4_isSeen_14 : decode cX4_isSeen 14 = .ok (.iconst 0, 1) := by decide +kernel
theorem dX4_isSeen_15 : decode cX4_isSeen 15 = .ok (.ireturn, 1) := by decide +kernel
theorem dX4_allSeen_0 : decode cX4_allSeen 0 = .ok (.aload_n 0, 1) := by decide +kernel
theorem dX4_allSeen_1 : decode cX4_allSeen 1 = .ok (.getfield 9, 3) := by decide +kernel
theorem dX4_allSeen_4 : decode cX4_allSeen 4 = .ok (.iload_n 1, 1) := by decide +kernel
theorem dX4_allSeen_5 : decode cX4_allSeen 5 = .ok (.iaload, 1) := by decide +kernel
theorem dX4_allSeen_6 : decode cX4_allSeen 6 = .ok (.iconst 1, 1) := by decide +kernel
theorem dX4_allSeen_7 : decode cX4_allSeen 7 = .ok (.if_icmp .ne 31, 3) := by decide +kernel
theorem dX4_allSeen_10 : decode cX4_allSeen 10 = .ok (.aload_n 0, 1) := by decide +kernel
theorem dX4_allSeen_11 : decode cX4_allSeen 11 = .ok (.getfield 9, 3) := by decide +kernel
theorem dX4_allSeen_14 : decode cX4_allSeen 14 = .ok (.iload_n 1, 1) := by decide +kernel
theorem dX4_allSeen_15 : decode cX4_allSeen 15 = .ok (.iconst 1, 1) := by decide +kernel
theorem dX4_allSeen_16 : decode cX4_allSeen 16 = .ok (.iadd, 1) := by decide +kernel
theorem dX4_allSeen_17 : decode cX4_allSeen 17 = .ok (.iaload, 1) := by decide +kernel
theorem dX4_allSeen_18 : decode cX4_allSeen 18 = .ok (.iconst 1, 1) := by decide +kernel
theorem dX4_allSeen_19 : decode cX4_allSeen 19 = .ok (.if_icmp .ne 19, 3) := by decide +kernel
theorem dX4_allSeen_22 : decode cX4_allSeen 22 = .ok (.aload_n 0, 1) := by decide +kernel
theorem dX4_allSeen_23 : decode cX4_allSeen 23 = .ok (.getfield 9, 3) := by decide +kernel
theorem dX4_allSeen_26 : decode cX4_allSeen 26 = .ok (.iload_n 1, 1) := by decide +kernel
theorem dX4_allSeen_27 : decode cX4_allSeen 27 = .ok (.iconst 2, 1) := by decide +kernel
theorem dX4_allSeen_28 : decode cX4_allSeen 28 = .ok (.iadd, 1) := by decide +kernel
theorem dX4_allSeen_29 : decode cX4_allSeen 29 = .ok (.iaload, 1) := by decide +kernel
theorem dX4_allSeen_30 : decode cX4_allSeen 30 = .ok (.iconst 1, 1) := by decide +kernel
theorem dX4_allSeen_31 : decode cX4_allSeen 31 = .ok (.if_icmp .ne 7, 3) := by decide +kernel
theorem dX4_allSeen_34 : decode cX4_allSeen 34 = .ok (.iconst 1, 1) := by decide +kernel
theorem dX4_allSeen_35 : decode cX4_allSeen 35 = .ok (.goto 4, 3) := by decide +kernel
theorem dX4_allSeen_38 : decode cX4_allSeen 38 = .ok (.iconst 0, 1) := by decide +kernel
theorem dX4_allSeen_39 : decode cX4_allSeen 39 = .ok (.ireturn, 1) := by decide +kernel
theorem dX4_someSeen_0 : decode cX4_someSeen 0 = .ok (.aload_n 0, 1) := by decide +kernel
theorem dX4_someSeen_1 : decode cX4_someSeen 1 = .ok (.getfield 9, 3) := by decide +kernel
theorem dX4_someSeen_4 : decode cX4_someSeen 4 = .ok (.iload_n 1, 1) := by decide +kernel
theorem dX4_someSeen_5 : decode cX4_someSeen 5 = .ok (.iaload, 1) := by decide +kernel
theorem dX4_someSeen_6 : decode cX4_someSeen 6 = .ok (.iconst 1, 1) := by decide +kernel
theorem dX4_someSeen_7 : decode cX4_someSeen 7 = .ok (.if_icmp .eq 27, 3) := by decide +kernel
theorem dX4_someSeen_10 : decode cX4_someSeen 10 = .ok (.aload_n 0, 1) := by decide +kernel
theorem dX4_someSeen_11 : decode cX4_someSeen 11 = .ok (.getfield 9, 3) := by decide +kernel
theorem dX4_someSeen_14 : decode cX4_someSeen 14 = .ok (.iload_n 1, 1) := by decide +kernel
theorem dX4_someSeen_15 : decode cX4_someSeen 15 = .ok (.iconst 1, 1) := by decide +kernel
theorem dX4_someSeen_16 : decode cX4_someSeen 16 = .ok (.iadd, 1) := by decide +kernel
theorem dX4_someSeen_17 : decode cX4_someSeen 17 = .ok (.iaload, 1) := by decide +kernel
theorem dX4_someSeen_18 : decode cX4_someSeen 18 = .ok (.iconst 1, 1) := by decide +kernel
theorem dX4_someSeen_19 : decode cX4_someSeen 19 = .ok (.if_icmp .eq 15, 3) := by decide +kernel
theorem dX4_someSeen_22 : decode cX4_someSeen 22 = .ok (.aload_n 0, 1) := by decide +kernel
theorem dX4_someSeen_23 : decode cX4_someSeen 23 = .ok (.getfield 9, 3) := by decide +kernel
theorem dX4_someSeen_26 : decode cX4_someSeen 26 = .ok (.iload_n 1, 1) := by decide +kernel
theorem dX4_someSeen_27 : decode cX4_someSeen 27 = .ok (.iconst 2, 1) := by decide +kernel
theorem dX4_someSeen_28 : decode cX4_someSeen 28 = .ok (.iadd, 1) := by decide +kernel
theorem dX4_someSeen_29 : decode cX4_someSeen 29 = .ok (.iaload, 1) := by decide +kernel
theorem dX4_someSeen_30 : decode cX4_someSeen 30 = .ok (.iconst 1, 1) := by decide +kernel
theorem dX4_someSeen_31 : decode cX4_someSeen 31 = .ok (.if_icmp .ne 7, 3) := by decide +kernel
theorem dX4_someSeen_34 : decode cX4_someSeen 34 = .ok (.iconst 1, 1) := by decide +kernel
theorem dX4_someSeen_35 : decode cX4_someSeen 35 = .ok (.goto 4, 3) := by decide +kernel
theorem dX4_someSeen_38 : decode cX4_someSeen 38 = .ok (.iconst 0, 1) := by decide +kernel
theorem dX4_someSeen_39 : decode cX4_someSeen 39 = .ok (.ireturn, 1) := by decide +kernel
theorem dX4_someInvalid_0 : decode cX4_someInvalid 0 = .ok (.iconst 0, 1) := by decide +kernel
theorem dX4_someInvalid_1 : decode cX4_someInvalid 1 = .ok (.istore_n 1, 1) := by decide +kernel
theorem dX4_someInvalid_2 : decode cX4_someInvalid 2 = .ok (.iload_n 1, 1) := by decide +kernel
theorem dX4_someInvalid_3 : decode cX4_someInvalid 3 = .ok (.bipush 18, 2) := by decide +kernel
theorem dX4_someInvalid_5 : decode cX4_someInvalid 5 = .ok (.if_icmp .ge 20, 3) := by decide +kernel
theorem dX4_someInvalid_8 : decode cX4_someInvalid 8 = .ok (.aload_n 0, 1) := by decide +kernel
theorem dX4_someInvalid_9 : decode cX4_someInvalid 9 = .ok (.getfield 15, 3) := by decide +kernel
theorem dX4_someInvalid_12 : decode cX4_someInvalid 12 = .ok (.iload_n 1, 1) := by decide +kernel
theorem dX4_someInvalid_13 : decode cX4_someInvalid 13 = .ok (.iaload, 1) := by decide +kernel
theorem dX4_someInvalid_14 : decode cX4_someInvalid 14 = .ok (.ifCond .ne 5, 3) := by decide +kernel
theorem dX4_someInvalid_17 : decode cX4_someInvalid 17 = .ok (.iconst 1, 1) := by decide +kernel
theorem dX4_someInvalid_18 : decode cX4_someInvalid 18 = .ok (.ireturn, 1) := by decide +kernel
theorem dX4_someInvalid_19 : decode cX4_someInvalid 19 = .ok (.iinc 1 1, 3) := by decide +kernel
theorem dX4_someInvalid_22 : decode cX4_someInvalid 22 = .ok (.goto (-20), 3) := by decide +kernel
theorem dX4_someInvalid_25 : decode cX4_someInvalid 25 = .ok (.iconst 0, 1) := by decide +kernel
theorem dX4_someInvalid_26 : decode cX4_someInvalid 26 = .ok (.ireturn, 1) := by decide +kernel
theorem dX5_init_0 : decode cX5_init 0 = .ok (.aload_n 0, 1) := by decide +kernel
theorem dX5_init_1 : decode cX5_init 1 = .ok (.invokespecial 3, 3) := by decide +kernel
theorem dX5_init_4 : decode cX5_init 4 = .ok (.aload_n 0, 1) := by decide +kernel
theorem dX5_init_5 : decode cX5_init 5 = .ok (.iconst 5, 1) := by decide +kernel
theorem dX5_init_6 : decode cX5_init 6 = .ok (.newarray .int, 2) := by decide +kernel
theorem dX5_init_8 : decode cX5_init 8 = .ok (.putfield 9, 3) := by decide +kernel
theorem dX5_init_11 : decode cX5_init 11 = .ok (.aload_n 0, 1) := by decide +kernel
theorem dX5_init_12 : decode cX5_init 12 = .ok (.iconst 0, 1) := by decide +kernel
theorem dX5_init_13 : decode cX5_init 13 = .ok (.putfield 15, 3) := by decide +kernel
theorem dX5_init_16 : decode cX5_init 16 = .ok (.aload_n 0, 1) := by decide +kernel
theorem dX5_init_17 : decode cX5_init 17 = .ok (.sipush 216, 3) := by decide +kernel
theorem dX5_init_20 : decode cX5_init 20 = .ok (.putfield 19, 3) := by decide +kernel
theorem dX5_init_23 : decode cX5_init 23 = .ok (.return_, 1) := by decide +kernel
theorem dX5_count_0 : decode cX5_count 0 = .ok (.aload_n 0, 1) := by decide +kernel
theorem dX5_count_1 : decode cX5_count 1 = .ok (.iload_n 2, 1) := by decide +kernel
theorem dX5_count_2 : decode cX5_count 2 = .ok (.ifCond .eq 7, 3) := by decide +kernel
theorem dX5_count_5 : decode cX5_count 5 = .ok (.iconst 0, 1) := by decide +kernel
theorem dX5_count_6 : decode cX5_count 6 = .ok (.goto 15, 3) := by decide +kernel
theorem dX5_count_9 : decode cX5_count 9 = .ok (.aload_n 0, 1) := by decide +kernel
theorem dX5_count_10 : decode cX5_count 10 = .ok (.getfield 19, 3) := by decide +kernel
theorem dX5_count_13 : decode cX5_count 13 = .ok (.iconst 1, 1) := by decide +kernel
theorem dX5_count_14 : decode cX5_count 14 = .ok (.iadd, 1) := by decide +kernel
theorem dX5_count_15 : decode cX5_count 15 = .ok (.sipush 216, 3) := by decide +kernel
theorem dX5_count_18 : decode cX5_count 18 = .ok (.invokestatic 22, 3) := by decide +kernel
theorem dX5_count_21 : decode cX5_count 21 = .ok (.putfield 19, 3) := by decide +kernel
theorem dX5_count_24 : decode cX5_count 24 = .ok (.iconst 0, 1) := by decide +kernel
theorem dX5_count_25 : decode cX5_count 25 = .ok (.istore_n 3, 1) := by decide +kernel
theorem dX5_count_26 : decode cX5_count 26 = .ok (.iload_n 3, 1) := by decide +kernel
theorem dX5_count_27 : decode cX5_count 27 = .ok (.iconst 5, 1) := by decide +kernel
theorem dX5_count_28 : decode cX5_count 28 = .ok (.if_icmp .ge 35, 3) := by decide +kernel
theorem dX5_count_31 : decode cX5_count 31 = .ok (.aload_n 0, 1) := by decide +kernel
theorem dX5_count_32 : decode cX5_count 32 = .ok (.getfield 9, 3) := by decide +kernel
theorem dX5_count_35 : decode cX5_count 35 = .ok (.iload_n 3, 1) := by decide +kernel
theorem dX5_count_36 : decode cX5_count 36 = .ok (.iload_n 1, 1) := by decide +kernel
theorem dX5_count_37 : decode cX5_count 37 = .ok (.iload_n 3, 1) := by decide +kernel
theorem dX5_count_38 : decode cX5_count 38 = .ok (.invokestatic 28, 3) := by decide +kernel
theorem dX5_count_41 : decode cX5_count 41 = .ok (.ifCond .eq 14, 3) := by decide +kernel
theorem dX5_count_44 : decode cX5_count 44 = .ok (.aload_n 0, 1) := by decide +kernel
theorem dX5_count_45 : decode cX5_count 45 = .ok (.getfield 9, 3) := by decide +kernel
theorem dX5_count_48 : decode cX5_count 48 = .ok (.iload_n 3, 1) := by decide +kernel
theorem dX5_count_49 : decode cX5_count 49 = .ok (.iaload, 1) := by decide +kernel
theorem dX5_count_50 : decode cX5_count 50 = .ok (.iconst 1, 1) := by decide +kernel
theorem dX5_count_51 : decode cX5_count 51 = .ok (.iadd, 1) := by decide +kernel
theorem dX5_count_52 : decode cX5_count 52 = .ok (.goto 4, 3) := by decide +kernel
theorem dX5_count_55 : decode cX5_count 55 = .ok (.iconst 0, 1) := by decide +kernel
theorem dX5_count_56 : decode cX5_count 56 = .ok (.iastore, 1) := by decide +kernel
theorem dX5_count_57 : decode cX5_count 57 = .ok (.iinc 3 1, 3) := by decide +kernel
theorem dX5_count_60 : decode cX5_count 60 = .ok (.goto (-34), 3) := by decide +kernel
theorem dX5_count_63 : decode cX5_count 63 = .ok (.aload_n 0, 1) := by decide +kernel
theorem dX5_count_64 : decode cX5_count 64 = .ok (.iload_n 1, 1) := by decide +kernel
theorem dX5_count_65 : decode cX5_count 65 = .ok (.iconst 0, 1) := by decide +kernel
theorem dX5_count_66 : decode cX5_count 66 = .ok (.invokestatic 28, 3) := by decide +kernel
theorem dX5_count_69 : decode cX5_count 69 = .ok (.ifCond .eq 7, 3) := by decide +kernel
theorem dX5_count_72 : decode cX5_count 72 = .ok (.iconst 0, 1) := by decide +kernel
theorem dX5_count_73 : decode cX5_count 73 = .ok (.goto 9, 3) := by decide +kernel
theorem dX5_count_76 : decode cX5_count 76 = .ok (.aload_n 0, 1) := by decide +kernel
theorem dX5_count_77 : decode cX5_count 77 = .ok (.getfield 15, 3) := by decide +kernel
theorem dX5_count_80 : decode cX5_count 80 = .ok (.iconst 1, 1) := by decide +kernel
theorem dX5_count_81 : decode cX5_count 81 = .ok (.iadd, 1) := by decide +kernel
theorem dX5_count_82 : decode cX5_count 82 = .ok (.putfield 15, 3) := by decide +kernel
theorem dX5_count_85 : decode cX5_count 85 = .ok (.return_, 1) := by decide +kernel
theorem dX5_firstCause_0 : decode cX5_firstCause 0 = .ok (.aload_n 1, 1) := by decide +kernel
theorem dX5_firstCause_1 : decode cX5_firstCause 1 = .ok (.invokevirtual 32, 3) := by decide +kernel
theorem dX5_firstCause_4 : decode cX5_firstCause 4 = .ok (.ifCond .eq 5, 3) := by decide +kernel
theorem dX5_firstCause_7 : decode cX5_firstCause 7 = .ok (.iconst 1, 1) := by decide +kernel
theorem dX5_firstCause_8 : decode cX5_firstCause 8 = .ok (.ireturn, 1) := by decide +kernel
theorem dX5_firstCause_9 : decode cX5_firstCause 9 = .ok (.aload_n 0, 1) := by decide +kernel
theorem dX5_firstCause_10 : decode cX5_firstCause 10 = .ok (.aload_n 1, 1) := by decide +kernel
theorem dX5_firstCause_11 : decode cX5_firstCause 11 = .ok (.invokevirtual 38, 3) := by decide +kernel
theorem dX5_firstCause_14 : decode cX5_firstCause 14 = .ok (.istore_n 2, 1) := by decide +kernel
theorem dX5_firstCause_15 : decode cX5_firstCause 15 = .ok (.iload_n 2, 1) := by decide +kernel
theorem dX5_firstCause_16 : decode cX5_firstCause 16 = .ok (.ifCond .ne 9, 3) := by decide +kernel
theorem dX5_firstCause_19 : decode cX5_firstCause 19 = .ok (.aload_n 0, 1) := by decide +kernel
theorem dX5_firstCause_20 : decode cX5_firstCause 20 = .ok (.aload_n 1, 1) := by decide +kernel
theorem dX5_firstCause_21 : decode cX5_firstCause 21 = .ok (.invokevirtual 42, 3) := by decide +kernel
theorem dX5_firstCause_24 : decode cX5_firstCause 24 = .ok (.istore_n 2, 1) := by decide +kernel
theorem dX5_firstCause_25 : decode cX5_firstCause 25 = .ok (.iload_n 2, 1) := by decide +kernel
theorem dX5_firstCause_26 : decode cX5_firstCause 26 = .ok (.ifCond .ne 11, 3) := by decide +kernel
theorem dX5_firstCause_29 : decode cX5_firstCause 29 = .ok (.aload_n 0, 1) := by decide +kernel
theorem dX5_firstCause_30 : decode cX5_firstCause 30 = .ok (.aload_n 1, 1) := by decide +kernel
theorem dX5_firstCause_31 : decode cX5_firstCause 31 = .ok (.invokevirtual 45, 3) := by decide +kernel
theorem dX5_firstCause_34 : decode cX5_firstCause 34 = .ok (.goto 4, 3) := by decide +kernel
theorem dX5_firstCause_37 : decode cX5_firstCause 37 = .ok (.iload_n 2, 1) := by decide +kernel
theorem dX5_firstCause_38 : decode cX5_firstCause 38 = .ok (.ireturn, 1) := by decide +kernel
theorem dX5_causeOfPower_0 : decode cX5_causeOfPower 0 = .ok (.aload_n 1, 1) := by decide +kernel
theorem dX5_causeOfPower_1 : decode cX5_causeOfPower 1 = .ok (.iconst 1, 1) := by decide +kernel
theorem dX5_causeOfPower_2 : decode cX5_causeOfPower 2 = .ok (.invokevirtual 48, 3) := by decide +kernel
theorem dX5_causeOfPower_5 : decode cX5_causeOfPower 5 = .ok (.istore_n 2, 1) := by decide +kernel
theorem dX5_causeOfPower_6 : decode cX5_causeOfPower 6 = .ok (.aload_n 0, 1) := by decide +kernel
theorem dX5_causeOfPower_7 : decode cX5_causeOfPower 7 = .ok (.getfield 19, 3) := by decide +kernel
theorem dX5_causeOfPower_10 : decode cX5_causeOfPower 10 = .ok (.bipush 10, 2) := by decide +kernel
theorem dX5_causeOfPower_12 : decode cX5_causeOfPower 12 = .ok (.if_icmp .ne 9, 3) := by decide +kernel
theorem dX5_causeOfPower_15 : decode cX5_causeOfPower 15 = .ok (.iload_n 2, 1) := by decide +kernel
theorem dX5_causeOfPower_16 : decode cX5_causeOfPower 16 = .ok (.ifCond .ne 5, 3) := by decide +kernel
theorem dX5_causeOfPower_19 : decode cX5_causeOfPower 19 = .ok (.iconst 2, 1) := by decide +kernel
theorem dX5_causeOfPower_20 : decode cX5_causeOfPower 20 = .ok (.ireturn, 1) := by decide +kernel
theorem dX5_causeOfPower_21 : decode cX5_causeOfPower 21 = .ok (.aload_n 0, 1) := by decide +kernel
theorem dX5_causeOfPower_22 : decode cX5_causeOfPower 22 = .ok (.getfield 19, 3) := by decide +kernel
theorem dX5_causeOfPower_25 : decode cX5_causeOfPower 25 = .ok (.sipush 216, 3) := by decide +kernel
theorem dX5_causeOfPower_28 : decode cX5_causeOfPower 28 = .ok (.if_icmp .lt 9, 3) := by decide +kernel
theorem dX5_causeOfPower_31 : decode cX5_causeOfPower 31 = .ok (.iload_n 2, 1) := by decide +kernel
theorem dX5_causeOfPower_32 : decode cX5_causeOfPower 32 = .ok (.ifCond .eq 5, 3) := by decide +kernel
theorem dX5_causeOfPower_35 : decode cX5_causeOfPower 35 = .ok (.iconst 3, 1) := by decide +kernel
theorem dX5_causeOfPower_36 : decode cX5_causeOfPower 36 = .ok (.ireturn, 1) := by decide +kernel
theorem dX5_causeOfPower_37 : decode cX5_causeOfPower 37 = .ok (.aload_n 1, 1) := by decide +kernel
theorem dX5_causeOfPower_38 : decode cX5_causeOfPower 38 = .ok (.iconst 2, 1) := by decide +kernel
theorem dX5_causeOfPower_39 : decode cX5_causeOfPower 39 = .ok (.invokevirtual 48, 3) := by decide +kernel
theorem dX5_causeOfPower_42 : decode cX5_causeOfPower 42 = .ok (.istore_n 3, 1) := by decide +kernel
theorem dX5_causeOfPower_43 : decode cX5_causeOfPower 43 = .ok (.aload_n 0, 1) := by decide +kernel
theorem dX5_causeOfPower_44 : decode cX5_causeOfPower 44 = .ok (.getfield 9, 3) := by decide +kernel
theorem dX5_causeOfPower_47 : decode cX5_causeOfPower 47 = .ok (.iconst 0, 1) := by decide +kernel
theorem dX5_causeOfPower_48 : decode cX5_causeOfPower 48 = .ok (.iaload, 1) := by decide +kernel
theorem dX5_causeOfPower_49 : decode cX5_causeOfPower 49 = .ok (.bipush 30, 2) := by decide +kernel
theorem dX5_causeOfPower_51 : decode cX5_causeOfPower 51 = .ok (.if_icmp .lt 9, 3) := by decide +kernel
theorem dX5_causeOfPower_54 : decode cX5_causeOfPower 54 = .ok (.iload_n 3, 1) := by decide +kernel
theorem dX5_causeOfPower_55 : decode cX5_causeOfPower 55 = .ok (.ifCond .ne 5, 3) := by decide +kernel
theorem dX5_causeOfPower_58 : decode cX5_causeOfPower 58 = .ok (.iconst 4, 1) := by decide +kernel
theorem dX5_causeOfPower_59 : decode cX5_causeOfPower 59 = .ok (.ireturn, 1) := by decide +kernel
theorem dX5_causeOfPower_60 : decode cX5_causeOfPower 60 = .ok (.aload_n 0, 1) := by decide +kernel
theorem dX5_causeOfPower_61 : decode cX5_causeOfPower 61 = .ok (.getfield 15, 3) := by decide +kernel
theorem dX5_causeOfPower_64 : decode cX5_causeOfPower 64 = .ok (.bipush 100, 2) := by decide +kernel
theorem dX5_causeOfPower_66 : decode cX5_causeOfPower 66 = .ok (.if_icmp .lt 11, 3) := by decide +kernel
theorem dX5_causeOfPower_69 : decode cX5_causeOfPower 69 = .ok (.iload_n 3, 1) := by decide +kernel
theorem dX5_causeOfPower_70 : decode cX5_causeOfPower 70 = .ok (.ifCond .eq 7, 3) := by decide +kernel
theorem dX5_causeOfPower_73 : decode cX5_causeOfPower 73 = .ok (.iconst 5, 1) := by decide +kernel
theorem dX5_causeOfPower_74 : decode cX5_causeOfPower 74 = .ok (.goto 4, 3) := by decide +kernel
theorem dX5_causeOfPower_77 : decode cX5_causeOfPower 77 = .ok (.iconst 0, 1) := by decide +kernel
theorem dX5_causeOfPower_78 : decode cX5_causeOfPower 78 = .ok (.ireturn, 1) := by decide +kernel
theorem dX5_causeOfDoors_0 : decode cX5_causeOfDoors 0 = .ok (.aload_n 0, 1) := by decide +kernel
theorem dX5_causeOfDoors_1 : decode cX5_causeOfDoors 1 = .ok (.getfield 9, 3) := by decide +kernel
theorem dX5_causeOfDoors_4 : decode cX5_causeOfDoors 4 = .ok (.iconst 1, 1) := by decide +kernel
theorem dX5_causeOfDoors_5 : decode cX5_causeOfDoors 5 = .ok (.iaload, 1) := by decide +kernel
theorem dX5_causeOfDoors_6 : decode cX5_causeOfDoors 6 = .ok (.bipush 70, 2) := by decide +kernel
theorem dX5_causeOfDoors_8 : decode cX5_causeOfDoors 8 = .ok (.if_icmp .lt 15, 3) := by decide +kernel
theorem dX5_causeOfDoors_11 : decode cX5_causeOfDoors 11 = .ok (.aload_n 1, 1) := by decide +kernel
theorem dX5_causeOfDoors_12 : decode cX5_causeOfDoors 12 = .ok (.bipush 6, 2) := by decide +kernel
theorem dX5_causeOfDoors_14 : decode cX5_causeOfDoors 14 = .ok (.invokevirtual 52, 3) := by decide +kernel
theorem dX5_causeOfDoors_17 : decode cX5_causeOfDoors 17 = .ok (.ifCond .ne 6, 3) := by decide +kernel
theorem dX5_causeOfDoors_20 : decode cX5_causeOfDoors 20 = .ok (.bipush 6, 2) := by decide +kernel
theorem dX5_causeOfDoors_22 : decode cX5_causeOfDoors 22 = .ok (.ireturn, 1) := by decide +kernel
theorem dX5_causeOfDoors_23 : decode cX5_causeOfDoors 23 = .ok (.aload_n 0, 1) := by decide +kernel
theorem dX5_causeOfDoors_24 : decode cX5_causeOfDoors 24 = .ok (.getfield 9, 3) := by decide +kernel
theorem dX5_causeOfDoors_27 : decode cX5_causeOfDoors 27 = .ok (.iconst 2, 1) := by decide +kernel
theorem dX5_causeOfDoors_28 : decode cX5_causeOfDoors 28 = .ok (.iaload, 1) := by decide +kernel
theorem dX5_causeOfDoors_29 : decode cX5_causeOfDoors 29 = .ok (.bipush 70, 2) := by decide +kernel
theorem dX5_causeOfDoors_31 : decode cX5_causeOfDoors 31 = .ok (.if_icmp .lt 16, 3) := by decide +kernel
theorem dX5_causeOfDoors_34 : decode cX5_causeOfDoors 34 = .ok (.aload_n 1, 1) := by decide +kernel
theorem dX5_causeOfDoors_35 : decode cX5_causeOfDoors 35 = .ok (.iconst 3, 1) := by decide +kernel
theorem dX5_causeOfDoors_36 : decode cX5_causeOfDoors 36 = .ok (.invokevirtual 52, 3) := by decide +kernel
theorem dX5_causeOfDoors_39 : decode cX5_causeOfDoors 39 = .ok (.ifCond .ne 8, 3) := by decide +kernel
theorem dX5_causeOfDoors_42 : decode cX5_causeOfDoors 42 = .ok (.bipush 7, 2) := by decide +kernel
theorem dX5_causeOfDoors_44 : decode cX5_causeOfDoors 44 = .ok (.goto 4, 3) := by decide +kernel
theorem dX5_causeOfDoors_47 : decode cX5_causeOfDoors 47 = .ok (.iconst 0, 1) := by decide +kernel
theorem dX5_causeOfDoors_48 : decode cX5_causeOfDoors 48 = .ok (.ireturn, 1) := by decide +kernel
theorem dX5_causeOfGears_0 : decode cX5_causeOfGears 0 = .ok (.aload_n 0, 1) := by decide +kernel
theorem dX5_causeOfGears_1 : decode cX5_causeOfGears 1 = .ok (.getfield 9, 3) := by decide +kernel
theorem dX5_causeOfGears_4 : decode cX5_causeOfGears 4 = .ok (.iconst 3, 1) := by decide +kernel
theorem dX5_causeOfGears_5 : decode cX5_causeOfGears 5 = .ok (.iaload, 1) := by decide +kernel
theorem dX5_causeOfGears_6 : decode cX5_causeOfGears 6 = .ok (.bipush 70, 2) := by decide +kernel
theorem dX5_causeOfGears_8 : decode cX5_causeOfGears 8 = .ok (.if_icmp .lt 12, 3) := by decide +kernel
theorem dX5_causeOfGears_11 : decode cX5_causeOfGears 11 = .ok (.aload_n 1, 1) := by decide +kernel
theorem dX5_causeOfGears_12 : decode cX5_causeOfGears 12 = .ok (.bipush 12, 2) := by decide +kernel
theorem dX5_causeOfGears_14 : decode cX5_causeOfGears 14 = .ok (.invokevirtual 55, 3) := by decide +kernel
theorem dX5_causeOfGears_17 : decode cX5_causeOfGears 17 = .ok (.ifCond .ne 23, 3) := by decide +kernel
theorem dX5_causeOfGears_20 : decode cX5_causeOfGears 20 = .ok (.aload_n 0, 1) := by decide +kernel
theorem dX5_causeOfGears_21 : decode cX5_causeOfGears 21 = .ok (.getfield 9, 3) := by decide +kernel
theorem dX5_causeOfGears_24 : decode cX5_causeOfGears 24 = .ok (.iconst 4, 1) := by decide +kernel
theorem dX5_causeOfGears_25 : decode cX5_causeOfGears 25 = .ok (.iaload, 1) := by decide +kernel
theorem dX5_causeOfGears_26 : decode cX5_causeOfGears 26 = .ok (.bipush 70, 2) := by decide +kernel
theorem dX5_causeOfGears_28 : decode cX5_causeOfGears 28 = .ok (.if_icmp .lt 15, 3) := by decide +kernel
theorem dX5_causeOfGears_31 : decode cX5_causeOfGears 31 = .ok (.aload_n 1, 1) := by decide +kernel
theorem dX5_causeOfGears_32 : decode cX5_causeOfGears 32 = .ok (.bipush 9, 2) := by decide +kernel
theorem dX5_causeOfGears_34 : decode cX5_causeOfGears 34 = .ok (.invokevirtual 55, 3) := by decide +kernel
theorem dX5_causeOfGears_37 : decode cX5_causeOfGears 37 = .ok (.ifCond .eq 6, 3) := by decide +kernel
theorem dX5_causeOfGears_40 : decode cX5_causeOfGears 40 = .ok (.bipush 8, 2) := by decide +kernel
theorem dX5_causeOfGears_42 : decode cX5_causeOfGears 42 = .ok (.ireturn, 1) := by decide +kernel
theorem dX5_causeOfGears_43 : decode cX5_causeOfGears 43 = .ok (.aload_n 0, 1) := by decide +kernel
theorem dX5_causeOfGears_44 : decode cX5_causeOfGears 44 = .ok (.getfield 9, 3) := by decide +kernel
theorem dX5_causeOfGears_47 : decode cX5_causeOfGears 47 = .ok (.iconst 3, 1) := by decide +kernel
theorem dX5_causeOfGears_48 : decode cX5_causeOfGears 48 = .ok (.iaload, 1) := by decide +kernel
theorem dX5_causeOfGears_49 : decode cX5_causeOfGears 49 = .ok (.bipush 100, 2) := by decide +kernel
theorem dX5_causeOfGears_51 : decode cX5_causeOfGears 51 = .ok (.if_icmp .lt 12, 3) := by decide +kernel
theorem dX5_causeOfGears_54 : decode cX5_causeOfGears 54 = .ok (.aload_n 1, 1) := by decide +kernel
theorem dX5_causeOfGears_55 : decode cX5_causeOfGears 55 = .ok (.bipush 9, 2) := by decide +kernel
theorem dX5_causeOfGears_57 : decode cX5_causeOfGears 57 = .ok (.invokevirtual 52, 3) := by decide +kernel
theorem dX5_causeOfGears_60 : decode cX5_causeOfGears 60 = .ok (.ifCond .eq 23, 3) := by decide +kernel
theorem dX5_causeOfGears_63 : decode cX5_causeOfGears 63 = .ok (.aload_n 0, 1) := by decide +kernel
theorem dX5_causeOfGears_64 : decode cX5_causeOfGears 64 = .ok (.getfield 9, 3) := by decide +kernel
theorem dX5_causeOfGears_67 : decode cX5_causeOfGears 67 = .ok (.iconst 4, 1) := by decide +kernel
theorem dX5_causeOfGears_68 : decode cX5_causeOfGears 68 = .ok (.iaload, 1) := by decide +kernel
theorem dX5_causeOfGears_69 : decode cX5_causeOfGears 69 = .ok (.bipush 100, 2) := by decide +kernel
theorem dX5_causeOfGears_71 : decode cX5_causeOfGears 71 = .ok (.if_icmp .lt 16, 3) := by decide +kernel
theorem dX5_causeOfGears_74 : decode cX5_causeOfGears 74 = .ok (.aload_n 1, 1) := by decide +kernel
theorem dX5_causeOfGears_75 : decode cX5_causeOfGears 75 = .ok (.bipush 12, 2) := by decide +kernel
theorem dX5_causeOfGears_77 : decode cX5_causeOfGears 77 = .ok (.invokevirtual 52, 3) := by decide +kernel
theorem dX5_causeOfGears_80 : decode cX5_causeOfGears 80 = .ok (.ifCond .ne 7, 3) := by decide +kernel
theorem dX5_causeOfGears_83 : decode cX5_causeOfGears 83 = .ok (.iconst 1, 1) := by decide +kernel
theorem dX5_causeOfGears_84 : decode cX5_causeOfGears 84 = .ok (.goto 4, 3) := by decide +kernel
theorem dX5_causeOfGears_87 : decode cX5_causeOfGears 87 = .ok (.iconst 0, 1) := by decide +kernel
theorem dX5_causeOfGears_88 : decode cX5_causeOfGears 88 = .ok (.istore_n 2, 1) := by decide +kernel
theorem dX5_causeOfGears_89 : decode cX5_causeOfGears 89 = .ok (.iload_n 2, 1) := by decide +kernel
theorem dX5_causeOfGears_90 : decode cX5_causeOfGears 90 = .ok (.ifCond .eq 8, 3) := by decide +kernel
theorem dX5_causeOfGears_93 : decode cX5_causeOfGears 93 = .ok (.bipush 9, 2) := by decide +kernel
theorem dX5_causeOfGears_95 : decode cX5_causeOfGears 95 = .ok (.goto 4, 3) := by decide +kernel
theorem dX5_causeOfGears_98 : decode cX5_causeOfGears 98 = .ok (.iconst 0, 1) := by decide +kernel
theorem dX5_causeOfGears_99 : decode cX5_causeOfGears 99 = .ok (.ireturn, 1) := by decide +kernel
theorem dX6_init_0 : decode cX6_init 0 = .ok (.aload_n 0, 1) := by decide +kernel
theorem dX6_init_1 : decode cX6_init 1 = .ok (.invokespecial 1, 3) := by decide +kernel
theorem dX6_init_4 : decode cX6_init 4 = .ok (.aload_n 0, 1) := by decide +kernel
theorem dX6_init_5 : decode cX6_init 5 = .ok (.new 7, 3) := by decide +kernel
theorem dX6_init_8 : decode cX6_init 8 = .ok (.dup, 1) := by decide +kernel
theorem dX6_init_9 : decode cX6_init 9 = .ok (.iload_n 1, 1) := by decide +kernel
theorem dX6_init_10 : decode cX6_init 10 = .ok (.iload_n 2, 1) := by decide +kernel
theorem dX6_init_11 : decode cX6_init 11 = .ok (.iload_n 3, 1) := by decide +kernel
theorem dX6_init_12 : decode cX6_init 12 = .ok (.iload 4, 2) := by decide +kernel
theorem dX6_init_14 : decode cX6_init 14 = .ok (.invokespecial 9, 3) := by decide +kernel
theorem dX6_init_17 : decode cX6_init 17 = .ok (.putfield 12, 3) := by decide +kernel
theorem dX6_init_20 : decode cX6_init 20 = .ok (.aload_n 0, 1) := by decide +kernel
theorem dX6_init_21 : decode cX6_init 21 = .ok (.new 18, 3) := by decide +kernel
theorem dX6_init_24 : decode cX6_init 24 = .ok (.dup, 1) := by decide +kernel
theorem dX6_init_25 : decode cX6_init 25 = .ok (.invokespecial 20, 3) := by decide +kernel
theorem dX6_init_28 : decode cX6_init 28 = .ok (.putfield 21, 3) := by decide +kernel
theorem dX6_init_31 : decode cX6_init 31 = .ok (.aload_n 0, 1) := by decide +kernel
theorem dX6_init_32 : decode cX6_init 32 = .ok (.getfield 21, 3) := by decide +kernel
theorem dX6_init_35 : decode cX6_init 35 = .ok (.aload_n 0, 1) := by decide +kernel
theorem dX6_init_36 : decode cX6_init 36 = .ok (.getfield 12, 3) := by decide +kernel
theorem dX6_init_39 : decode cX6_init 39 = .ok (.invokevirtual 25, 3) := by decide +kernel
theorem dX6_init_42 : decode cX6_init 42 = .ok (.aload_n 0, 1) := by decide +kernel
theorem dX6_init_43 : decode cX6_init 43 = .ok (.iconst 2, 1) := by decide +kernel
theorem dX6_init_44 : decode cX6_init 44 = .ok (.anewarray 29, 3) := by decide +kernel
theorem dX6_init_47 : decode cX6_init 47 = .ok (.putfield 31, 3) := by decide +kernel
theorem dX6_init_50 : decode cX6_init 50 = .ok (.iconst 0, 1) := by decide +kernel
theorem dX6_init_51 : decode cX6_init 51 = .ok (.istore 5, 2) := by decide +kernel
theorem dX6_init_53 : decode cX6_init 53 = .ok (.iload 5, 2) := by decide +kernel
theorem dX6_init_55 : decode cX6_init 55 = .ok (.iconst 2, 1) := by decide +kernel
theorem dX6_init_56 : decode cX6_init 56 = .ok (.if_icmp .ge 29, 3) := by decide +kernel
theorem dX6_init_59 : decode cX6_init 59 = .ok (.aload_n 0, 1) := by decide +kernel
theorem dX6_init_60 : decode cX6_init 60 = .ok (.getfield 31, 3) := by decide +kernel
theorem dX6_init_63 : decode cX6_init 63 = .ok (.iload 5, 2) := by decide +kernel
theorem dX6_init_65 : decode cX6_init 65 = .ok (.new 29, 3) := by decide +kernel
theorem dX6_init_68 : decode cX6_init 68 = .ok (.dup, 1) := by decide +kernel
theorem dX6_init_69 : decode cX6_init 69 = .ok (.iload 5, 2) := by decide +kernel
theorem dX6_init_71 : decode cX6_init 71 = .ok (.aload_n 0, 1) := by decide +kernel
theorem dX6_init_72 : decode cX6_init 72 = .ok (.getfield 21, 3) := by decide +kernel
theorem dX6_init_75 : decode cX6_init 75 = .ok (.invokespecial 35, 3) := by decide +kernel
theorem dX6_init_78 : decode cX6_init 78 = .ok (.aastore, 1) := by decide +kernel
theorem dX6_init_79 : decode cX6_init 79 = .ok (.iinc 5 1, 3) := by decide +kernel
theorem dX6_init_82 : decode cX6_init 82 = .ok (.goto (-29), 3) := by decide +kernel
theorem dX6_init_85 : decode cX6_init 85 = .ok (.aload_n 0, 1) := by decide +kernel
theorem dX6_init_86 : decode cX6_init 86 = .ok (.new 38, 3) := by decide +kernel
theorem dX6_init_89 : decode cX6_init 89 = .ok (.dup, 1) := by decide +kernel
theorem dX6_init_90 : decode cX6_init 90 = .ok (.invokespecial 40, 3) := by decide +kernel
theorem dX6_init_93 : decode cX6_init 93 = .ok (.putfield 41, 3) := by decide +kernel
theorem dX6_init_96 : decode cX6_init 96 = .ok (.aload_n 0, 1) := by decide +kernel
theorem dX6_init_97 : decode cX6_init 97 = .ok (.iconst 0, 1) := by decide +kernel
theorem dX6_init_98 : decode cX6_init 98 = .ok (.putfield 45, 3) := by decide +kernel
theorem dX6_init_101 : decode cX6_init 101 = .ok (.aload_n 0, 1) := by decide +kernel
theorem dX6_init_102 : decode cX6_init 102 = .ok (.iconst 1, 1) := by decide +kernel
theorem dX6_init_103 : decode cX6_init 103 = .ok (.putfield 49, 3) := by decide +kernel
theorem dX6_init_106 : decode cX6_init 106 = .ok (.aload_n 0, 1) := by decide +kernel
theorem dX6_init_107 : decode cX6_init 107 = .ok (.iconst 0, 1) := by decide +kernel
theorem dX6_init_108 : decode cX6_init 108 = .ok (.putfield 52, 3) := by decide +kernel
theorem dX6_init_111 : decode cX6_init 111 = .ok (.return_, 1) := by decide +kernel
theorem dX6_handle_0 : decode cX6_handle 0 = .ok (.iload_n 1, 1) := by decide +kernel
theorem dX6_handle_1 : decode cX6_handle 1 = .ok (.iconst 1, 1) := by decide +kernel
theorem dX6_handle_2 : decode cX6_handle 2 = .ok (.invokestatic 56, 3) := by decide +kernel
theorem dX6_handle_5 : decode cX6_handle 5 = .ok (.ifCond .eq 8, 3) := by decide +kernel
theorem dX6_handle_8 : decode cX6_handle 8 = .ok (.bipush (-2), 2) := by decide +kernel
theorem dX6_handle_10 : decode cX6_handle 10 = .ok (.goto 11, 3) := by decide +kernel
theorem dX6_handle_13 : decode cX6_handle 13 = .ok (.aload_n 0, 1) := by decide +kernel
theorem dX6_handle_14 : decode cX6_handle 14 = .ok (.getfield 12, 3) := by decide +kernel
theorem dX6_handle_17 : decode cX6_handle 17 = .ok (.iload_n 1, 1) := by decide +kernel
theorem dX6_handle_18 : decode cX6_handle 18 = .ok (.invokevirtual 60, 3) := by decide +kernel
theorem dX6_handle_21 : decode cX6_handle 21 = .ok (.ireturn, 1) := by decide +kernel
theorem dX6_ground_0 : decode cX6_ground 0 = .ok (.iload_n 1, 1) := by decide +kernel
theorem dX6_ground_1 : decode cX6_ground 1 = .ok (.bipush 7, 2) := by decide +kernel
theorem dX6_ground_3 : decode cX6_ground 3 = .ok (.invokestatic 56, 3) := by decide +kernel
theorem dX6_ground_6 : decode cX6_ground 6 = .ok (.ifCond .eq 6, 3) := by decide +kernel
theorem dX6_ground_9 : decode cX6_ground 9 = .ok (.bipush (-2), 2) := by decide +kernel
theorem dX6_ground_11 : decode cX6_ground 11 = .ok (.ireturn, 1) := by decide +kernel
theorem dX6_ground_12 : decode cX6_ground 12 = .ok (.aload_n 0, 1) := by decide +kernel
theorem dX6_ground_13 : decode cX6_ground 13 = .ok (.getfield 12, 3) := by decide +kernel
theorem dX6_ground_16 : decode cX6_ground 16 = .ok (.getfield 64, 3) := by decide +kernel
theorem dX6_ground_19 : decode cX6_ground 19 = .ok (.istore_n 2, 1) := by decide +kernel
theorem dX6_ground_20 : decode cX6_ground 20 = .ok (.aload_n 0, 1) := by decide +kernel
theorem dX6_ground_21 : decode cX6_ground 21 = .ok (.getfield 12, 3) := by decide +kernel
theorem dX6_ground_24 : decode cX6_ground 24 = .ok (.iload_n 1, 1) := by decide +kernel
theorem dX6_ground_25 : decode cX6_ground 25 = .ok (.putfield 64, 3) := by decide +kernel
theorem dX6_ground_28 : decode cX6_ground 28 = .ok (.iload_n 2, 1) := by decide +kernel
theorem dX6_ground_29 : decode cX6_ground 29 = .ok (.ireturn, 1) := by decide +kernel
theorem dX6_channel_0 : decode cX6_channel 0 = .ok (.iload_n 1, 1) := by decide +kernel
theorem dX6_channel_1 : decode cX6_channel 1 = .ok (.bipush 17, 2) := by decide +kernel
theorem dX6_channel_3 : decode cX6_channel 3 = .ok (.invokestatic 56, 3) := by decide +kernel
theorem dX6_channel_6 : decode cX6_channel 6 = .ok (.ifCond .ne 19, 3) := by decide +kernel
theorem dX6_channel_9 : decode cX6_channel 9 = .ok (.iload_n 2, 1) := by decide +kernel
theorem dX6_channel_10 : decode cX6_channel 10 = .ok (.iconst 2, 1) := by decide +kernel
theorem dX6_channel_11 : decode cX6_channel 11 = .ok (.invokestatic 56, 3) := by decide +kernel
theorem dX6_channel_14 : decode cX6_channel 14 = .ok (.ifCond .ne 11, 3) := by decide +kernel
theorem dX6_channel_17 : decode cX6_channel 17 = .ok (.iload_n 3, 1) := by decide +kernel
theorem dX6_channel_18 : decode cX6_channel 18 = .ok (.iconst 3, 1) := by decide +kernel
theorem dX6_channel_19 : decode cX6_channel 19 = .ok (.invokestatic 56, 3) := by decide +kernel
theorem dX6_channel_22 : decode cX6_channel 22 = .ok (.ifCond .eq 6, 3) := by decide +kernel
theorem dX6_channel_25 : decode cX6_channel 25 = .ok (.bipush (-2), 2) := by decide +kernel
theorem dX6_channel_27 : decode cX6_channel 27 = .ok (.ireturn, 1) := by decide +kernel
theorem dX6_channel_28 : decode cX6_channel 28 = .ok (.aload_n 0, 1) := by decide +kernel
theorem dX6_channel_29 : decode cX6_channel 29 = .ok (.getfield 21, 3) := by decide +kernel
theorem dX6_channel_32 : decode cX6_channel 32 = .ok (.getfield 67, 3) := by decide +kernel
theorem dX6_channel_35 : decode cX6_channel 35 = .ok (.iload_n 1, 1) := by decide +kernel
theorem dX6_channel_36 : decode cX6_channel 36 = .ok (.iconst 3, 1) := by decide +kernel
theorem dX6_channel_37 : decode cX6_channel 37 = .ok (.imul, 1) := by decide +kernel
theorem dX6_channel_38 : decode cX6_channel 38 = .ok (.iload_n 2, 1) := by decide +kernel
theorem dX6_channel_39 : decode cX6_channel 39 = .ok (.iadd, 1) := by decide +kernel
theorem dX6_channel_40 : decode cX6_channel 40 = .ok (.iload_n 3, 1) := by decide +kernel
theorem dX6_channel_41 : decode cX6_channel 41 = .ok (.invokestatic 71, 3) := by decide +kernel
theorem dX6_channel_44 : decode cX6_channel 44 = .ok (.ireturn, 1) := by decide +kernel
theorem dX6_cylinder_0 : decode cX6_cylinder 0 = .ok (.iload_n 1, 1) := by decide +kernel
theorem dX6_cylinder_1 : decode cX6_cylinder 1 = .ok (.iconst 5, 1) := by decide +kernel
theorem dX6_cylinder_2 : decode cX6_cylinder 2 = .ok (.invokestatic 56, 3) := by decide +kernel
theorem dX6_cylinder_5 : decode cX6_cylinder 5 = .ok (.ifCond .ne 11, 3) := by decide +kernel
theorem dX6_cylinder_8 : decode cX6_cylinder 8 = .ok (.iload_n 2, 1) := by decide +kernel
theorem dX6_cylinder_9 : decode cX6_cylinder 9 = .ok (.iconst 1, 1) := by decide +kernel
theorem dX6_cylinder_10 : decode cX6_cylinder 10 = .ok (.invokestatic 56, 3) := by decide +kernel
theorem dX6_cylinder_13 : decode cX6_cylinder 13 = .ok (.ifCond .eq 6, 3) := by decide +kernel
theorem dX6_cylinder_16 : decode cX6_cylinder 16 = .ok (.bipush (-2), 2) := by decide +kernel
theorem dX6_cylinder_18 : decode cX6_cylinder 18 = .ok (.ireturn, 1) := by decide +kernel
theorem dX6_cylinder_19 : decode cX6_cylinder 19 = .ok (.aload_n 0, 1) := by decide +kernel
theorem dX6_cylinder_20 : decode cX6_cylinder 20 = .ok (.getfield 12, 3) := by decide +kernel
theorem dX6_cylinder_23 : decode cX6_cylinder 23 = .ok (.getfield 75, 3) := by decide +kernel
theorem dX6_cylinder_26 : decode cX6_cylinder 26 = .ok (.iload_n 1, 1) := by decide +kernel
theorem dX6_cylinder_27 : decode cX6_cylinder 27 = .ok (.iload_n 2, 1) := by decide +kernel
theorem dX6_cylinder_28 : decode cX6_cylinder 28 = .ok (.invokestatic 71, 3) := by decide +kernel
theorem dX6_cylinder_31 : decode cX6_cylinder 31 = .ok (.ireturn, 1) := by decide +kernel
theorem dX6_valve_0 : decode cX6_valve 0 = .ok (.iload_n 1, 1) := by decide +kernel
theorem dX6_valve_1 : decode cX6_valve 1 = .ok (.iconst 4, 1) := by decide +kernel
theorem dX6_valve_2 : decode cX6_valve 2 = .ok (.invokestatic 56, 3) := by decide +kernel
theorem dX6_valve_5 : decode cX6_valve 5 = .ok (.ifCond .ne 11, 3) := by decide +kernel
theorem dX6_valve_8 : decode cX6_valve 8 = .ok (.iload_n 2, 1) := by decide +kernel
theorem dX6_valve_9 : decode cX6_valve 9 = .ok (.iconst 2, 1) := by decide +kernel
theorem dX6_valve_10 : decode cX6_valve 10 = .ok (.invokestatic 56, 3) := by decide +kernel
theorem dX6_valve_13 : decode cX6_valve 13 = .ok (.ifCond .eq 6, 3) := by decide +kernel
theorem dX6_valve_16 : decode cX6_valve 16 = .ok (.bipush (-2), 2) := by decide +kernel
theorem dX6_valve_18 : decode cX6_valve 18 = .ok (.ireturn, 1) := by decide +kernel
theorem dX6_valve_19 : decode cX6_valve 19 = .ok (.aload_n 0, 1) := by decide +kernel
theorem dX6_valve_20 : decode cX6_valve 20 = .ok (.getfield 12, 3) := by decide +kernel
theorem dX6_valve_23 : decode cX6_valve 23 = .ok (.getfield 78, 3) := by decide +kernel
theorem dX6_valve_26 : decode cX6_valve 26 = .ok (.iload_n 1, 1) := by decide +kernel
theorem dX6_valve_27 : decode cX6_valve 27 = .ok (.iload_n 2, 1) := by decide +kernel
theorem dX6_valve_28 : decode cX6_valve 28 = .ok (.invokestatic 71, 3) := by decide +kernel
theorem dX6_valve_31 : decode cX6_valve 31 = .ok (.ireturn, 1) := by decide +kernel
theorem dX6_stick_0 : decode cX6_stick 0 = .ok (.iload_n 1, 1) := by decide +kernel
theorem dX6_stick_1 : decode cX6_stick 1 = .ok (.iconst 1, 1) := by decide +kernel
theorem dX6_stick_2 : decode cX6_stick 2 = .ok (.invokestatic 56, 3) := by decide +kernel
theorem dX6_stick_5 : decode cX6_stick 5 = .ok (.ifCond .eq 6, 3) := by decide +kernel
theorem dX6_stick_8 : decode cX6_stick 8 = .ok (.bipush (-2), 2) := by decide +kernel
theorem dX6_stick_10 : decode cX6_stick 10 = .ok (.ireturn, 1) := by decide +kernel
theorem dX6_stick_11 : decode cX6_stick 11 = .ok (.aload_n 0, 1) := by decide +kernel
theorem dX6_stick_12 : decode cX6_stick 12 = .ok (.getfield 12, 3) := by decide +kernel
theorem dX6_stick_15 : decode cX6_stick 15 = .ok (.getfield 81, 3) := by decide +kernel
theorem dX6_stick_18 : decode cX6_stick 18 = .ok (.istore_n 2, 1) := by decide +kernel
theorem dX6_stick_19 : decode cX6_stick 19 = .ok (.aload_n 0, 1) := by decide +kernel
theorem dX6_stick_20 : decode cX6_stick 20 = .ok (.getfield 12, 3) := by decide +kernel
theorem dX6_stick_23 : decode cX6_stick 23 = .ok (.iload_n 1, 1) := by decide +kernel
theorem dX6_stick_24 : decode cX6_stick 24 = .ok (.putfield 81, 3) := by decide +kernel
theorem dX6_stick_27 : decode cX6_stick 27 = .ok (.iload_n 2, 1) := by decide +kernel
theorem dX6_stick_28 : decode cX6_stick 28 = .ok (.ireturn, 1) := by decide +kernel
theorem dX6_module_0 : decode cX6_module 0 = .ok (.iload_n 1, 1) := by decide +kernel
theorem dX6_module_1 : decode cX6_module 1 = .ok (.iconst 1, 1) := by decide +kernel
theorem dX6_module_2 : decode cX6_module 2 = .ok (.invokestatic 56, 3) := by decide +kernel
theorem dX6_module_5 : decode cX6_module 5 = .ok (.ifCond .ne 11, 3) := by decide +kernel
theorem dX6_module_8 : decode cX6_module 8 = .ok (.iload_n 2, 1) := by decide +kernel
theorem dX6_module_9 : decode cX6_module 9 = .ok (.iconst 1, 1) := by decide +kernel
theorem dX6_module_10 : decode cX6_module 10 = .ok (.invokestatic 56, 3) := by decide +kernel
theorem dX6_module_13 : decode cX6_module 13 = .ok (.ifCond .eq 6, 3) := by decide +kernel
theorem dX6_module_16 : decode cX6_module 16 = .ok (.bipush (-2), 2) := by decide +kernel
theorem dX6_module_18 : decode cX6_module 18 = .ok (.ireturn, 1) := by decide +kernel
theorem dX6_module_19 : decode cX6_module 19 = .ok (.aload_n 0, 1) := by decide +kernel
theorem dX6_module_20 : decode cX6_module 20 = .ok (.getfield 31, 3) := by decide +kernel
theorem dX6_module_23 : decode cX6_module 23 = .ok (.iload_n 1, 1) := by decide +kernel
theorem dX6_module_24 : decode cX6_module 24 = .ok (.aaload, 1) := by decide +kernel
theorem dX6_module_25 : decode cX6_module 25 = .ok (.getfield 84, 3) := by decide +kernel
theorem dX6_module_28 : decode cX6_module 28 = .ok (.istore_n 3, 1) := by decide +kernel
theorem dX6_module_29 : decode cX6_module 29 = .ok (.aload_n 0, 1) := by decide +kernel
theorem dX6_module_30 : decode cX6_module 30 = .ok (.getfield 31, 3) := by decide +kernel
theorem dX6_module_33 : decode cX6_module 33 = .ok (.iload_n 1, 1) := by decide +kernel
theorem dX6_module_34 : decode cX6_module 34 = .ok (.aaload, 1) := by decide +kernel
theorem dX6_module_35 : decode cX6_module 35 = .ok (.iload_n 2, 1) := by decide +kernel
theorem dX6_module_36 : decode cX6_module 36 = .ok (.putfield 84, 3) := by decide +kernel
theorem dX6_module_39 : decode cX6_module 39 = .ok (.iload_n 3, 1) := by decide +kernel
theorem dX6_module_40 : decode cX6_module 40 = .ok (.ireturn, 1) := by decide +kernel
theorem dX6_run_0 : decode cX6_run 0 = .ok (.iload_n 1, 1) := by decide +kernel
theorem dX6_run_1 : decode cX6_run 1 = .ok (.iconst 1, 1) := by decide +kernel
theorem dX6_run_2 : decode cX6_run 2 = .ok (.if_icmp .lt 10, 3) := by decide +kernel
theorem dX6_run_5 : decode cX6_run 5 = .ok (.iload_n 1, 1) := by decide +kernel
theorem dX6_run_6 : decode cX6_run 6 = .ok (.sipush 1000, 3) := by decide +kernel
theorem dX6_run_9 : decode cX6_run 9 = .ok (.if_icmp .le 6, 3) := by decide +kernel
theorem dX6_run_12 : decode cX6_run 12 = .ok (.bipush (-2), 2) := by decide +kernel
theorem dX6_run_14 : decode cX6_run 14 = .ok (.ireturn, 1) := by decide +kernel
theorem dX6_run_15 : decode cX6_run 15 = .ok (.iconst 0, 1) := by decide +kernel
theorem dX6_run_16 : decode cX6_run 16 = .ok (.istore_n 2, 1) := by decide +kernel
theorem dX6_run_17 : decode cX6_run 17 = .ok (.iload_n 2, 1) := by decide +kernel
theorem dX6_run_18 : decode cX6_run 18 = .ok (.iload_n 1, 1) := by decide +kernel
theorem dX6_run_19 : decode cX6_run 19 = .ok (.if_icmp .ge 13, 3) := by decide +kernel
theorem dX6_run_22 : decode cX6_run 22 = .ok (.aload_n 0, 1) := by decide +kernel
theorem dX6_run_23 : decode cX6_run 23 = .ok (.invokevirtual 87, 3) := by decide +kernel
theorem dX6_run_26 : decode cX6_run 26 = .ok (.iinc 2 1, 3) := by decide +kernel
theorem dX6_run_29 : decode cX6_run 29 = .ok (.goto (-12), 3) := by decide +kernel
theorem dX6_run_32 : decode cX6_run 32 = .ok (.aload_n 0, 1) := by decide +kernel
theorem dX6_run_33 : decode cX6_run 33 = .ok (.getfield 49, 3) := by decide +kernel
theorem dX6_run_36 : decode cX6_run 36 = .ok (.ireturn, 1) := by decide +kernel
theorem dX6_settle_0 : decode cX6_settle 0 = .ok (.iload_n 1, 1) := by decide +kernel
theorem dX6_settle_1 : decode cX6_settle 1 = .ok (.iconst 1, 1) := by decide +kernel
theorem dX6_settle_2 : decode cX6_settle 2 = .ok (.if_icmp .lt 10, 3) := by decide +kernel
theorem dX6_settle_5 : decode cX6_settle 5 = .ok (.iload_n 1, 1) := by decide +kernel
theorem dX6_settle_6 : decode cX6_settle 6 = .ok (.sipush 1000, 3) := by decide +kernel
theorem dX6_settle_9 : decode cX6_settle 9 = .ok (.if_icmp .le 6, 3) := by decide +kernel
theorem dX6_settle_12 : decode cX6_settle 12 = .ok (.bipush (-2), 2) := by decide +kernel
theorem dX6_settle_14 : decode cX6_settle 14 = .ok (.ireturn, 1) := by decide +kernel
theorem dX6_settle_15 : decode cX6_settle 15 = .ok (.iconst 0, 1) := by decide +kernel
theorem dX6_settle_16 : decode cX6_settle 16 = .ok (.istore_n 2, 1) := by decide +kernel
theorem dX6_settle_17 : decode cX6_settle 17 = .ok (.iload_n 2, 1) := by decide +kernel
theorem dX6_settle_18 : decode cX6_settle 18 = .ok (.iload_n 1, 1) := by decide +kernel
theorem dX6_settle_19 : decode cX6_settle 19 = .ok (.if_icmp .ge 20, 3) := by decide +kernel
theorem dX6_settle_22 : decode cX6_settle 22 = .ok (.aload_n 0, 1) := by decide +kernel
theorem dX6_settle_23 : decode cX6_settle 23 = .ok (.invokevirtual 90, 3) := by decide +kernel
theorem dX6_settle_26 : decode cX6_settle 26 = .ok (.ifCond .eq 13, 3) := by decide +kernel
theorem dX6_settle_29 : decode cX6_settle 29 = .ok (.aload_n 0, 1) := by decide +kernel
theorem dX6_settle_30 : decode cX6_settle 30 = .ok (.invokevirtual 87, 3) := by decide +kernel
theorem dX6_settle_33 : decode cX6_settle 33 = .ok (.iinc 2 1, 3) := by decide +kernel
theorem dX6_settle_36 : decode cX6_settle 36 = .ok (.goto (-19), 3) := by decide +kernel
theorem dX6_settle_39 : decode cX6_settle 39 = .ok (.iload_n 2, 1) := by decide +kernel
theorem dX6_settle_40 : decode cX6_settle 40 = .ok (.ireturn, 1) := by decide +kernel
theorem dX6_plant_0 : decode cX6_plant 0 = .ok (.iload_n 1, 1) := by decide +kernel
theorem dX6_plant_1 : decode cX6_plant 1 = .ok (.ifCond .lt 19, 3) := by decide +kernel
theorem dX6_plant_4 : decode cX6_plant 4 = .ok (.iload_n 1, 1) := by decide +kernel
theorem dX6_plant_5 : decode cX6_plant 5 = .ok (.bipush 6, 2) := by decide +kernel
theorem dX6_plant_7 : decode cX6_plant 7 = .ok (.if_icmp .ge 13, 3) := by decide +kernel
theorem dX6_plant_10 : decode cX6_plant 10 = .ok (.aload_n 0, 1) := by decide +kernel
theorem dX6_plant_11 : decode cX6_plant 11 = .ok (.getfield 12, 3) := by decide +kernel
theorem dX6_plant_14 : decode cX6_plant 14 = .ok (.getfield 94, 3) := by decide +kernel
theorem dX6_plant_17 : decode cX6_plant 17 = .ok (.iload_n 1, 1) := by decide +kernel
theorem dX6_plant_18 : decode cX6_plant 18 = .ok (.iaload, 1) := by decide +kernel
theorem dX6_plant_19 : decode cX6_plant 19 = .ok (.ireturn, 1) := by decide +kernel
theorem dX6_plant_20 : decode cX6_plant 20 = .ok (.iload_n 1, 1) := by decide +kernel
theorem dX6_plant_21 : decode cX6_plant 21 = .ok (.bipush 6, 2) := by decide +kernel
theorem dX6_plant_23 : decode cX6_plant 23 = .ok (.if_icmp .lt 22, 3) := by decide +kernel
theorem dX6_plant_26 : decode cX6_plant 26 = .ok (.iload_n 1, 1) := by decide +kernel
theorem dX6_plant_27 : decode cX6_plant 27 = .ok (.bipush 11, 2) := by decide +kernel
theorem dX6_plant_29 : decode cX6_plant 29 = .ok (.if_icmp .ge 16, 3) := by decide +kernel
theorem dX6_plant_32 : decode cX6_plant 32 = .ok (.aload_n 0, 1) := by decide +kernel
theorem dX6_plant_33 : decode cX6_plant 33 = .ok (.getfield 12, 3) := by decide +kernel
theorem dX6_plant_36 : decode cX6_plant 36 = .ok (.getfield 97, 3) := by decide +kernel
theorem dX6_plant_39 : decode cX6_plant 39 = .ok (.iload_n 1, 1) := by decide +kernel
theorem dX6_plant_40 : decode cX6_plant 40 = .ok (.bipush 6, 2) := by decide +kernel
theorem dX6_plant_42 : decode cX6_plant 42 = .ok (.isub, 1) := by decide +kernel
theorem dX6_plant_43 : decode cX6_plant 43 = .ok (.iaload, 1) := by decide +kernel
theorem dX6_plant_44 : decode cX6_plant 44 = .ok (.ireturn, 1) := by decide +kernel
theorem dX6_plant_45 : decode cX6_plant 45 = .ok (.iload_n 1, 1) := by decide +kernel
theorem dX6_plant_46 : decode cX6_plant 46 = .ok (.tableswitch 92 11 17 #[42, 50, 58, 66, 74, 79, 87], 42) := by decide +kernel
theorem dX6_plant_88 : decode cX6_plant 88 = .ok (.aload_n 0, 1) := by decide +kernel
theorem dX6_plant_89 : decode cX6_plant 89 = .ok (.getfield 12, 3) := by decide +kernel
theorem dX6_plant_92 : decode cX6_plant 92 = .ok (.getfield 100, 3) := by decide +kernel
theorem dX6_plant_95 : decode cX6_plant 95 = .ok (.ireturn, 1) := by decide +kernel
theorem dX6_plant_96 : decode cX6_plant 96 = .ok (.aload_n 0, 1) := by decide +kernel
theorem dX6_plant_97 : decode cX6_plant 97 = .ok (.getfield 12, 3) := by decide +kernel
theorem dX6_plant_100 : decode cX6_plant 100 = .ok (.getfield 103, 3) := by decide +kernel
theorem dX6_plant_103 : decode cX6_plant 103 = .ok (.ireturn, 1) := by decide +kernel
theorem dX6_plant_104 : decode cX6_plant 104 = .ok (.aload_n 0, 1) := by decide +kernel
theorem dX6_plant_105 : decode cX6_plant 105 = .ok (.getfield 12, 3) := by decide +kernel
theorem dX6_plant_108 : decode cX6_plant 108 = .ok (.getfield 106, 3) := by decide +kernel
theorem dX6_plant_111 : decode cX6_plant 111 = .ok (.ireturn, 1) := by decide +kernel
theorem dX6_plant_112 : decode cX6_plant 112 = .ok (.aload_n 0, 1) := by decide +kernel
theorem dX6_plant_113 : decode cX6_plant 113 = .ok (.getfield 12, 3) := by decide +kernel
theorem dX6_plant_116 : decode cX6_plant 116 = .ok (.getfield 64, 3) := by decide +kernel
theorem dX6_plant_119 : decode cX6_plant 119 = .ok (.ireturn, 1) := by decide +kernel
theorem dX6_plant_120 : decode cX6_plant 120 = .ok (.aload_n 0, 1) := by decide +kernel
theorem dX6_plant_121 : decode cX6_plant 121 = .ok (.getfield 45, 3) := by decide +kernel
theorem dX6_plant_124 : decode cX6_plant 124 = .ok (.ireturn, 1) := by decide +kernel
theorem dX6_plant_125 : decode cX6_plant 125 = .ok (.aload_n 0, 1) := by decide +kernel
theorem dX6_plant_126 : decode cX6_plant 126 = .ok (.getfield 12, 3) := by decide +kernel
theorem dX6_plant_129 : decode cX6_plant 129 = .ok (.getfield 109, 3) := by decide +kernel
theorem dX6_plant_132 : decode cX6_plant 132 = .ok (.ireturn, 1) := by decide +kernel
theorem dX6_plant_133 : decode cX6_plant 133 = .ok (.aload_n 0, 1) := by decide +kernel
theorem dX6_plant_134 : decode cX6_plant 134 = .ok (.invokevirtual 112, 3) := by decide +kernel
theorem dX6_plant_137 : decode cX6_plant 137 = .ok (.ireturn, 1) := by decide +kernel
theorem dX6_plant_138 : decode cX6_plant 138 = .ok (.bipush (-2), 2) := by decide +kernel
theorem dX6_plant_140 : decode cX6_plant 140 = .ok (.ireturn, 1) := by decide +kernel
theorem dX6_about_0 : decode cX6_about 0 = .ok (.iload_n 1, 1) := by decide +kernel
theorem dX6_about_1 : decode cX6_about 1 = .ok (.iconst 1, 1) := by decide +kernel
theorem dX6_about_2 : decode cX6_about 2 = .ok (.invokestatic 56, 3) := by decide +kernel
theorem dX6_about_5 : decode cX6_about 5 = .ok (.ifCond .eq 8, 3) := by decide +kernel
theorem dX6_about_8 : decode cX6_about 8 = .ok (.bipush (-2), 2) := by decide +kernel
theorem dX6_about_10 : decode cX6_about 10 = .ok (.goto 13, 3) := by decide +kernel
theorem dX6_about_13 : decode cX6_about 13 = .ok (.aload_n 0, 1) := by decide +kernel
theorem dX6_about_14 : decode cX6_about 14 = .ok (.getfield 31, 3) := by decide +kernel
theorem dX6_about_17 : decode cX6_about 17 = .ok (.iload_n 1, 1) := by decide +kernel
theorem dX6_about_18 : decode cX6_about 18 = .ok (.aaload, 1) := by decide +kernel
theorem dX6_about_19 : decode cX6_about 19 = .ok (.iload_n 2, 1) := by decide +kernel
theorem dX6_about_20 : decode cX6_about 20 = .ok (.invokevirtual 116, 3) := by decide +kernel
theorem dX6_about_23 : decode cX6_about 23 = .ok (.ireturn, 1) := by decide +kernel
theorem dX6_sees_0 : decode cX6_sees 0 = .ok (.iload_n 1, 1) := by decide +kernel
theorem dX6_sees_1 : decode cX6_sees 1 = .ok (.iconst 1, 1) := by decide +kernel
theorem dX6_sees_2 : decode cX6_sees 2 = .ok (.invokestatic 56, 3) := by decide +kernel
theorem dX6_sees_5 : decode cX6_sees 5 = .ok (.ifCond .ne 20, 3) := by decide +kernel
theorem dX6_sees_8 : decode cX6_sees 8 = .ok (.iload_n 2, 1) := by decide +kernel
theorem dX6_sees_9 : decode cX6_sees 9 = .ok (.bipush 17, 2) := by decide +kernel
theorem dX6_sees_11 : decode cX6_sees 11 = .ok (.invokestatic 56, 3) := by decide +kernel
theorem dX6_sees_14 : decode cX6_sees 14 = .ok (.ifCond .ne 11, 3) := by decide +kernel
theorem dX6_sees_17 : decode cX6_sees 17 = .ok (.iload_n 3, 1) := by decide +kernel
theorem dX6_sees_18 : decode cX6_sees 18 = .ok (.iconst 1, 1) := by decide +kernel
theorem dX6_sees_19 : decode cX6_sees 19 = .ok (.invokestatic 56, 3) := by decide +kernel
theorem dX6_sees_22 : decode cX6_sees 22 = .ok (.ifCond .eq 6, 3) := by decide +kernel
theorem dX6_sees_25 : decode cX6_sees 25 = .ok (.bipush (-2), 2) := by decide +kernel
theorem dX6_sees_27 : decode cX6_sees 27 = .ok (.ireturn, 1) := by decide +kernel
theorem dX6_sees_28 : decode cX6_sees 28 = .ok (.aload_n 0, 1) := by decide +kernel
theorem dX6_sees_29 : decode cX6_sees 29 = .ok (.getfield 31, 3) := by decide +kernel
theorem dX6_sees_32 : decode cX6_sees 32 = .ok (.iload_n 1, 1) := by decide +kernel
theorem dX6_sees_33 : decode cX6_sees 33 = .ok (.aaload, 1) := by decide +kernel
theorem dX6_sees_34 : decode cX6_sees 34 = .ok (.getfield 119, 3) := by decide +kernel
theorem dX6_sees_37 : decode cX6_sees 37 = .ok (.astore 4, 2) := by decide +kernel
theorem dX6_sees_39 : decode cX6_sees 39 = .ok (.iload_n 3, 1) := by decide +kernel
theorem dX6_sees_40 : decode cX6_sees 40 = .ok (.ifCond .ne 13, 3) := by decide +kernel
theorem dX6_sees_43 : decode cX6_sees 43 = .ok (.aload 4, 2) := by decide +kernel
theorem dX6_sees_45 : decode cX6_sees 45 = .ok (.getfield 123, 3) := by decide +kernel
theorem dX6_sees_48 : decode cX6_sees 48 = .ok (.iload_n 2, 1) := by decide +kernel
theorem dX6_sees_49 : decode cX6_sees 49 = .ok (.iaload, 1) := by decide +kernel
theorem dX6_sees_50 : decode cX6_sees 50 = .ok (.goto 10, 3) := by decide +kernel
theorem dX6_sees_53 : decode cX6_sees 53 = .ok (.aload 4, 2) := by decide +kernel
theorem dX6_sees_55 : decode cX6_sees 55 = .ok (.getfield 128, 3) := by decide +kernel
theorem dX6_sees_58 : decode cX6_sees 58 = .ok (.iload_n 2, 1) := by decide +kernel
theorem dX6_sees_59 : decode cX6_sees 59 = .ok (.iaload, 1) := by decide +kernel
theorem dX6_sees_60 : decode cX6_sees 60 = .ok (.ireturn, 1) := by decide +kernel
theorem dX6_tells_0 : decode cX6_tells 0 = .ok (.iload_n 1, 1) := by decide +kernel
theorem dX6_tells_1 : decode cX6_tells 1 = .ok (.bipush 17, 2) := by decide +kernel
theorem dX6_tells_3 : decode cX6_tells 3 = .ok (.invokestatic 56, 3) := by decide +kernel
theorem dX6_tells_6 : decode cX6_tells 6 = .ok (.ifCond .ne 11, 3) := by decide +kernel
theorem dX6_tells_9 : decode cX6_tells 9 = .ok (.iload_n 2, 1) := by decide +kernel
theorem dX6_tells_10 : decode cX6_tells 10 = .ok (.iconst 2, 1) := by decide +kernel
theorem dX6_tells_11 : decode cX6_tells 11 = .ok (.invokestatic 56, 3) := by decide +kernel
theorem dX6_tells_14 : decode cX6_tells 14 = .ok (.ifCond .eq 6, 3) := by decide +kernel
theorem dX6_tells_17 : decode cX6_tells 17 = .ok (.bipush (-2), 2) := by decide +kernel
theorem dX6_tells_19 : decode cX6_tells 19 = .ok (.ireturn, 1) := by decide +kernel
theorem dX6_tells_20 : decode cX6_tells 20 = .ok (.aload_n 0, 1) := by decide +kernel
theorem dX6_tells_21 : decode cX6_tells 21 = .ok (.getfield 21, 3) := by decide +kernel
theorem dX6_tells_24 : decode cX6_tells 24 = .ok (.iload_n 1, 1) := by decide +kernel
theorem dX6_tells_25 : decode cX6_tells 25 = .ok (.iload_n 2, 1) := by decide +kernel
theorem dX6_tells_26 : decode cX6_tells 26 = .ok (.invokevirtual 131, 3) := by decide +kernel
theorem dX6_tells_29 : decode cX6_tells 29 = .ok (.ireturn, 1) := by decide +kernel
theorem dX6_lights_0 : decode cX6_lights 0 = .ok (.aload_n 0, 1) := by decide +kernel
theorem dX6_lights_1 : decode cX6_lights 1 = .ok (.getfield 49, 3) := by decide +kernel
theorem dX6_lights_4 : decode cX6_lights 4 = .ok (.ireturn, 1) := by decide +kernel
theorem dX6_log_0 : decode cX6_log 0 = .ok (.iload_n 2, 1) := by decide +kernel
theorem dX6_log_1 : decode cX6_log 1 = .ok (.iconst 2, 1) := by decide +kernel
theorem dX6_log_2 : decode cX6_log 2 = .ok (.invokestatic 56, 3) := by decide +kernel
theorem dX6_log_5 : decode cX6_log 5 = .ok (.ifCond .eq 8, 3) := by decide +kernel
theorem dX6_log_8 : decode cX6_log 8 = .ok (.bipush (-2), 2) := by decide +kernel
theorem dX6_log_10 : decode cX6_log 10 = .ok (.goto 12, 3) := by decide +kernel
theorem dX6_log_13 : decode cX6_log 13 = .ok (.aload_n 0, 1) := by decide +kernel
theorem dX6_log_14 : decode cX6_log 14 = .ok (.getfield 41, 3) := by decide +kernel
theorem dX6_log_17 : decode cX6_log 17 = .ok (.iload_n 1, 1) := by decide +kernel
theorem dX6_log_18 : decode cX6_log 18 = .ok (.iload_n 2, 1) := by decide +kernel
theorem dX6_log_19 : decode cX6_log 19 = .ok (.invokevirtual 135, 3) := by decide +kernel
theorem dX6_log_22 : decode cX6_log 22 = .ok (.ireturn, 1) := by decide +kernel
theorem dX6_logged_0 : decode cX6_logged 0 = .ok (.aload_n 0, 1) := by decide +kernel
theorem dX6_logged_1 : decode cX6_logged 1 = .ok (.getfield 41, 3) := by decide +kernel
theorem dX6_logged_4 : decode cX6_logged 4 = .ok (.getfield 138, 3) := by decide +kernel
theorem dX6_logged_7 : decode cX6_logged 7 = .ok (.ireturn, 1) := by decide +kernel
theorem dX6_bound_0 : decode cX6_bound 0 = .ok (.bipush 80, 2) := by decide +kernel
theorem dX6_bound_2 : decode cX6_bound 2 = .ok (.iconst 2, 1) := by decide +kernel
theorem dX6_bound_3 : decode cX6_bound 3 = .ok (.aload_n 0, 1) := by decide +kernel
theorem dX6_bound_4 : decode cX6_bound 4 = .ok (.getfield 12, 3) := by decide +kernel
theorem dX6_bound_7 : decode cX6_bound 7 = .ok (.iconst 0, 1) := by decide +kernel
theorem dX6_bound_8 : decode cX6_bound 8 = .ok (.invokevirtual 141, 3) := by decide +kernel
theorem dX6_bound_11 : decode cX6_bound 11 = .ok (.imul, 1) := by decide +kernel
theorem dX6_bound_12 : decode cX6_bound 12 = .ok (.iadd, 1) := by decide +kernel
theorem dX6_bound_13 : decode cX6_bound 13 = .ok (.aload_n 0, 1) := by decide +kernel
theorem dX6_bound_14 : decode cX6_bound 14 = .ok (.getfield 12, 3) := by decide +kernel
theorem dX6_bound_17 : decode cX6_bound 17 = .ok (.iconst 3, 1) := by decide +kernel
theorem dX6_bound_18 : decode cX6_bound 18 = .ok (.invokevirtual 141, 3) := by decide +kernel
theorem dX6_bound_21 : decode cX6_bound 21 = .ok (.iadd, 1) := by decide +kernel
theorem dX6_bound_22 : decode cX6_bound 22 = .ok (.ireturn, 1) := by decide +kernel
theorem dX6_safe_0 : decode cX6_safe 0 = .ok (.aload_n 0, 1) := by decide +kernel
theorem dX6_safe_1 : decode cX6_safe 1 = .ok (.getfield 12, 3) := by decide +kernel
theorem dX6_safe_4 : decode cX6_safe 4 = .ok (.getfield 109, 3) := by decide +kernel
theorem dX6_safe_7 : decode cX6_safe 7 = .ok (.ifCond .ne 14, 3) := by decide +kernel
theorem dX6_safe_10 : decode cX6_safe 10 = .ok (.aload_n 0, 1) := by decide +kernel
theorem dX6_safe_11 : decode cX6_safe 11 = .ok (.getfield 52, 3) := by decide +kernel
theorem dX6_safe_14 : decode cX6_safe 14 = .ok (.ifCond .ne 7, 3) := by decide +kernel
theorem dX6_safe_17 : decode cX6_safe 17 = .ok (.iconst 1, 1) := by decide +kernel
theorem dX6_safe_18 : decode cX6_safe 18 = .ok (.goto 4, 3) := by decide +kernel
theorem dX6_safe_21 : decode cX6_safe 21 = .ok (.iconst 0, 1) := by decide +kernel
theorem dX6_safe_22 : decode cX6_safe 22 = .ok (.ireturn, 1) := by decide +kernel
theorem dX6_tick_0 : decode cX6_tick 0 = .ok (.aload_n 0, 1) := by decide +kernel
theorem dX6_tick_1 : decode cX6_tick 1 = .ok (.invokevirtual 112, 3) := by decide +kernel
theorem dX6_tick_4 : decode cX6_tick 4 = .ok (.istore_n 1, 1) := by decide +kernel
theorem dX6_tick_5 : decode cX6_tick 5 = .ok (.iload_n 1, 1) := by decide +kernel
theorem dX6_tick_6 : decode cX6_tick 6 = .ok (.iconst 1, 1) := by decide +kernel
theorem dX6_tick_7 : decode cX6_tick 7 = .ok (.iconst 2, 1) := by decide +kernel
theorem dX6_tick_8 : decode cX6_tick 8 = .ok (.invokestatic 144, 3) := by decide +kernel
theorem dX6_tick_11 : decode cX6_tick 11 = .ok (.ifCond .ne 12, 3) := by decide +kernel
theorem dX6_tick_14 : decode cX6_tick 14 = .ok (.iload_n 1, 1) := by decide +kernel
theorem dX6_tick_15 : decode cX6_tick 15 = .ok (.iconst 3, 1) := by decide +kernel
theorem dX6_tick_16 : decode cX6_tick 16 = .ok (.iconst 4, 1) := by decide +kernel
theorem dX6_tick_17 : decode cX6_tick 17 = .ok (.invokestatic 144, 3) := by decide +kernel
theorem dX6_tick_20 : decode cX6_tick 20 = .ok (.ifCond .eq 8, 3) := by decide +kernel
theorem dX6_tick_23 : decode cX6_tick 23 = .ok (.aload_n 0, 1) := by decide +kernel
theorem dX6_tick_24 : decode cX6_tick 24 = .ok (.iconst 1, 1) := by decide +kernel
theorem dX6_tick_25 : decode cX6_tick 25 = .ok (.putfield 52, 3) := by decide +kernel
theorem dX6_tick_28 : decode cX6_tick 28 = .ok (.aload_n 0, 1) := by decide +kernel
theorem dX6_tick_29 : decode cX6_tick 29 = .ok (.dup, 1) := by decide +kernel
theorem dX6_tick_30 : decode cX6_tick 30 = .ok (.getfield 45, 3) := by decide +kernel
theorem dX6_tick_33 : decode cX6_tick 33 = .ok (.iconst 1, 1) := by decide +kernel
theorem dX6_tick_34 : decode cX6_tick 34 = .ok (.iadd, 1) := by decide +kernel
theorem dX6_tick_35 : decode cX6_tick 35 = .ok (.putfield 45, 3) := by decide +kernel
theorem dX6_tick_38 : decode cX6_tick 38 = .ok (.aload_n 0, 1) := by decide +kernel
theorem dX6_tick_39 : decode cX6_tick 39 = .ok (.getfield 12, 3) := by decide +kernel
theorem dX6_tick_42 : decode cX6_tick 42 = .ok (.iload_n 1, 1) := by decide +kernel
theorem dX6_tick_43 : decode cX6_tick 43 = .ok (.invokevirtual 148, 3) := by decide +kernel
theorem dX6_tick_46 : decode cX6_tick 46 = .ok (.aload_n 0, 1) := by decide +kernel
theorem dX6_tick_47 : decode cX6_tick 47 = .ok (.getfield 21, 3) := by decide +kernel
theorem dX6_tick_50 : decode cX6_tick 50 = .ok (.aload_n 0, 1) := by decide +kernel
theorem dX6_tick_51 : decode cX6_tick 51 = .ok (.getfield 12, 3) := by decide +kernel
theorem dX6_tick_54 : decode cX6_tick 54 = .ok (.invokevirtual 25, 3) := by decide +kernel
theorem dX6_tick_57 : decode cX6_tick 57 = .ok (.iconst 0, 1) := by decide +kernel
theorem dX6_tick_58 : decode cX6_tick 58 = .ok (.istore_n 2, 1) := by decide +kernel
theorem dX6_tick_59 : decode cX6_tick 59 = .ok (.iconst 0, 1) := by decide +kernel
theorem dX6_tick_60 : decode cX6_tick 60 = .ok (.istore_n 3, 1) := by decide +kernel
theorem dX6_tick_61 : decode cX6_tick 61 = .ok (.iload_n 3, 1) := by decide +kernel
theorem dX6_tick_62 : decode cX6_tick 62 = .ok (.iconst 2, 1) := by decide +kernel
theorem dX6_tick_63 : decode cX6_tick 63 = .ok (.if_icmp .ge 54, 3) := by decide +kernel
theorem dX6_tick_66 : decode cX6_tick 66 = .ok (.aload_n 0, 1) := by decide +kernel
theorem dX6_tick_67 : decode cX6_tick 67 = .ok (.getfield 31, 3) := by decide +kernel
theorem dX6_tick_70 : decode cX6_tick 70 = .ok (.iload_n 3, 1) := by decide +kernel
theorem dX6_tick_71 : decode cX6_tick 71 = .ok (.aaload, 1) := by decide +kernel
theorem dX6_tick_72 : decode cX6_tick 72 = .ok (.getfield 84, 3) := by decide +kernel
theorem dX6_tick_75 : decode cX6_tick 75 = .ok (.ifCond .ne 36, 3) := by decide +kernel
theorem dX6_tick_78 : decode cX6_tick 78 = .ok (.aload_n 0, 1) := by decide +kernel
theorem dX6_tick_79 : decode cX6_tick 79 = .ok (.getfield 31, 3) := by decide +kernel
theorem dX6_tick_82 : decode cX6_tick 82 = .ok (.iload_n 3, 1) := by decide +kernel
theorem dX6_tick_83 : decode cX6_tick 83 = .ok (.aaload, 1) := by decide +kernel
theorem dX6_tick_84 : decode cX6_tick 84 = .ok (.aload_n 0, 1) := by decide +kernel
theorem dX6_tick_85 : decode cX6_tick 85 = .ok (.getfield 21, 3) := by decide +kernel
theorem dX6_tick_88 : decode cX6_tick 88 = .ok (.aload_n 0, 1) := by decide +kernel
theorem dX6_tick_89 : decode cX6_tick 89 = .ok (.getfield 41, 3) := by decide +kernel
theorem dX6_tick_92 : decode cX6_tick 92 = .ok (.aload_n 0, 1) := by decide +kernel
theorem dX6_tick_93 : decode cX6_tick 93 = .ok (.getfield 45, 3) := by decide +kernel
theorem dX6_tick_96 : decode cX6_tick 96 = .ok (.invokevirtual 152, 3) := by decide +kernel
theorem dX6_tick_99 : decode cX6_tick 99 = .ok (.iload_n 2, 1) := by decide +kernel
theorem dX6_tick_100 : decode cX6_tick 100 = .ok (.aload_n 0, 1) := by decide +kernel
theorem dX6_tick_101 : decode cX6_tick 101 = .ok (.getfield 31, 3) := by decide +kernel
theorem dX6_tick_104 : decode cX6_tick 104 = .ok (.iload_n 3, 1) := by decide +kernel
theorem dX6_tick_105 : decode cX6_tick 105 = .ok (.aaload, 1) := by decide +kernel
theorem dX6_tick_106 : decode cX6_tick 106 = .ok (.invokevirtual 156, 3) := by decide +kernel
theorem dX6_tick_109 : decode cX6_tick 109 = .ok (.ior, 1) := by decide +kernel
theorem dX6_tick_110 : decode cX6_tick 110 = .ok (.istore_n 2, 1) := by decide +kernel
theorem dX6_tick_111 : decode cX6_tick 111 = .ok (.iinc 3 1, 3) := by decide +kernel
theorem dX6_tick_114 : decode cX6_tick 114 = .ok (.goto (-53), 3) := by decide +kernel
theorem dX6_tick_117 : decode cX6_tick 117 = .ok (.aload_n 0, 1) := by decide +kernel
theorem dX6_tick_118 : decode cX6_tick 118 = .ok (.iload_n 2, 1) := by decide +kernel
theorem dX6_tick_119 : decode cX6_tick 119 = .ok (.putfield 49, 3) := by decide +kernel
theorem dX6_tick_122 : decode cX6_tick 122 = .ok (.return_, 1) := by decide +kernel
theorem dX6_ordered_0 : decode cX6_ordered 0 = .ok (.iconst 0, 1) := by decide +kernel
theorem dX6_ordered_1 : decode cX6_ordered 1 = .ok (.istore_n 1, 1) := by decide +kernel
theorem dX6_ordered_2 : decode cX6_ordered 2 = .ok (.iconst 0, 1) := by decide +kernel
theorem dX6_ordered_3 : decode cX6_ordered 3 = .ok (.istore_n 2, 1) := by decide +kernel
theorem dX6_ordered_4 : decode cX6_ordered 4 = .ok (.iload_n 2, 1) := by decide +kernel
theorem dX6_ordered_5 : decode cX6_ordered 5 = .ok (.iconst 2, 1) := by decide +kernel
theorem dX6_ordered_6 : decode cX6_ordered 6 = .ok (.if_icmp .ge 21, 3) := by decide +kernel
theorem dX6_ordered_9 : decode cX6_ordered 9 = .ok (.iload_n 1, 1) := by decide +kernel
theorem dX6_ordered_10 : decode cX6_ordered 10 = .ok (.aload_n 0, 1) := by decide +kernel
theorem dX6_ordered_11 : decode cX6_ordered 11 = .ok (.getfield 31, 3) := by decide +kernel
theorem dX6_ordered_14 : decode cX6_ordered 14 = .ok (.iload_n 2, 1) := by decide +kernel
theorem dX6_ordered_15 : decode cX6_ordered 15 = .ok (.aaload, 1) := by decide +kernel
theorem dX6_ordered_16 : decode cX6_ordered 16 = .ok (.invokevirtual 159, 3) := by decide +kernel
theorem dX6_ordered_19 : decode cX6_ordered 19 = .ok (.ior, 1) := by decide +kernel
theorem dX6_ordered_20 : decode cX6_ordered 20 = .ok (.istore_n 1, 1) := by decide +kernel
theorem dX6_ordered_21 : decode cX6_ordered 21 = .ok (.iinc 2 1, 3) := by decide +kernel
theorem dX6_ordered_24 : decode cX6_ordered 24 = .ok (.goto (-20), 3) := by decide +kernel
theorem dX6_ordered_27 : decode cX6_ordered 27 = .ok (.iload_n 1, 1) := by decide +kernel
theorem dX6_ordered_28 : decode cX6_ordered 28 = .ok (.ireturn, 1) := by decide +kernel
theorem dX6_unsettled_0 : decode cX6_unsettled 0 = .ok (.iconst 0, 1) := by decide +kernel
theorem dX6_unsettled_1 : decode cX6_unsettled 1 = .ok (.istore_n 1, 1) := by decide +kernel
theorem dX6_unsettled_2 : decode cX6_unsettled 2 = .ok (.iconst 0, 1) := by decide +kernel
theorem dX6_unsettled_3 : decode cX6_unsettled 3 = .ok (.istore_n 2, 1) := by decide +kernel
theorem dX6_unsettled_4 : decode cX6_unsettled 4 = .ok (.iload_n 2, 1) := by decide +kernel
theorem dX6_unsettled_5 : decode cX6_unsettled 5 = .ok (.iconst 2, 1) := by decide +kernel
theorem dX6_unsettled_6 : decode cX6_unsettled 6 = .ok (.if_icmp .ge 31, 3) := by decide +kernel
theorem dX6_unsettled_9 : decode cX6_unsettled 9 = .ok (.iload_n 1, 1) := by decide +kernel
theorem dX6_unsettled_10 : decode cX6_unsettled 10 = .ok (.ifCond .ne 15, 3) := by decide +kernel
theorem dX6_unsettled_13 : decode cX6_unsettled 13 = .ok (.aload_n 0, 1) := by decide +kernel
theorem dX6_unsettled_14 : decode cX6_unsettled 14 = .ok (.getfield 31, 3) := by decide +kernel
theorem dX6_unsettled_17 : decode cX6_unsettled 17 = .ok (.iload_n 2, 1) := by decide +kernel
theorem dX6_unsettled_18 : decode cX6_unsettled 18 = .ok (.aaload, 1) := by decide +kernel
theorem dX6_unsettled_19 : decode cX6_unsettled 19 = .ok (.invokevirtual 162, 3) := by decide +kernel
theorem dX6_unsettled_22 : decode cX6_unsettled 22 = .ok (.ifCond .eq 7, 3) := by decide +kernel
theorem dX6_unsettled_25 : decode cX6_unsettled 25 = .ok (.iconst 1, 1) := by decide +kernel
theorem dX6_unsettled_26 : decode cX6_unsettled 26 = .ok (.goto 4, 3) := by decide +kernel
theorem dX6_unsettled_29 : decode cX6_unsettled 29 = .ok (.iconst 0, 1) := by decide +kernel
theorem dX6_unsettled_30 : decode cX6_unsettled 30 = .ok (.istore_n 1, 1) := by decide +kernel
theorem dX6_unsettled_31 : decode cX6_unsettled 31 = .ok (.iinc 2 1, 3) := by decide +kernel
theorem dX6_unsettled_34 : decode cX6_unsettled 34 = .ok (.goto (-30), 3) := by decide +kernel
theorem dX6_unsettled_37 : decode cX6_unsettled 37 = .ok (.iload_n 1, 1) := by decide +kernel
theorem dX6_unsettled_38 : decode cX6_unsettled 38 = .ok (.ireturn, 1) := by decide +kernel
theorem dX6_outside_0 : decode cX6_outside 0 = .ok (.iload_n 0, 1) := by decide +kernel
theorem dX6_outside_1 : decode cX6_outside 1 = .ok (.ifCond .lt 8, 3) := by decide +kernel
theorem dX6_outside_4 : decode cX6_outside 4 = .ok (.iload_n 0, 1) := by decide +kernel
theorem dX6_outside_5 : decode cX6_outside 5 = .ok (.iload_n 1, 1) := by decide +kernel
theorem dX6_outside_6 : decode cX6_outside 6 = .ok (.if_icmp .le 7, 3) := by decide +kernel
theorem dX6_outside_9 : decode cX6_outside 9 = .ok (.iconst 1, 1) := by decide +kernel
theorem dX6_outside_10 : decode cX6_outside 10 = .ok (.goto 4, 3) := by decide +kernel
theorem dX6_outside_13 : decode cX6_outside 13 = .ok (.iconst 0, 1) := by decide +kernel
theorem dX6_outside_14 : decode cX6_outside 14 = .ok (.ireturn, 1) := by decide +kernel
theorem dX6_exchange_0 : decode cX6_exchange 0 = .ok (.aload_n 0, 1) := by decide +kernel
theorem dX6_exchange_1 : decode cX6_exchange 1 = .ok (.iload_n 1, 1) := by decide +kernel
theorem dX6_exchange_2 : decode cX6_exchange 2 = .ok (.iaload, 1) := by decide +kernel
theorem dX6_exchange_3 : decode cX6_exchange 3 = .ok (.istore_n 3, 1) := by decide +kernel
theorem dX6_exchange_4 : decode cX6_exchange 4 = .ok (.aload_n 0, 1) := by decide +kernel
theorem dX6_exchange_5 : decode cX6_exchange 5 = .ok (.iload_n 1, 1) := by decide +kernel
theorem dX6_exchange_6 : decode cX6_exchange 6 = .ok (.iload_n 2, 1) := by decide +kernel
theorem dX6_exchange_7 : decode cX6_exchange 7 = .ok (.iastore, 1) := by decide +kernel
theorem dX6_exchange_8 : decode cX6_exchange 8 = .ok (.iload_n 3, 1) := by decide +kernel
theorem dX6_exchange_9 : decode cX6_exchange 9 = .ok (.ireturn, 1) := by decide +kernel
theorem dX6_bit_0 : decode cX6_bit 0 = .ok (.iload_n 0, 1) := by decide +kernel
theorem dX6_bit_1 : decode cX6_bit 1 = .ok (.ifCond .eq 7, 3) := by decide +kernel
theorem dX6_bit_4 : decode cX6_bit 4 = .ok (.iconst 1, 1) := by decide +kernel
theorem dX6_bit_5 : decode cX6_bit 5 = .ok (.goto 4, 3) := by decide +kernel
theorem dX6_bit_8 : decode cX6_bit 8 = .ok (.iconst 0, 1) := by decide +kernel
theorem dX6_bit_9 : decode cX6_bit 9 = .ok (.ireturn, 1) := by decide +kernel
theorem dX6_has_0 : decode cX6_has 0 = .ok (.iload_n 0, 1) := by decide +kernel
theorem dX6_has_1 : decode cX6_has 1 = .ok (.iload_n 1, 1) := by decide +kernel
theorem dX6_has_2 : decode cX6_has 2 = .ok (.ishr, 1) := by decide +kernel
theorem dX6_has_3 : decode cX6_has 3 = .ok (.iconst 1, 1) := by decide +kernel
theorem dX6_has_4 : decode cX6_has 4 = .ok (.iand, 1) := by decide +kernel
theorem dX6_has_5 : decode cX6_has 5 = .ok (.iconst 1, 1) := by decide +kernel
theorem dX6_has_6 : decode cX6_has 6 = .ok (.if_icmp .ne 7, 3) := by decide +kernel
theorem dX6_has_9 : decode cX6_has 9 = .ok (.iconst 1, 1) := by decide +kernel
theorem dX6_has_10 : decode cX6_has 10 = .ok (.goto 4, 3) := by decide +kernel
theorem dX6_has_13 : decode cX6_has 13 = .ok (.iconst 0, 1) := by decide +kernel
theorem dX6_has_14 : decode cX6_has 14 = .ok (.ireturn, 1) := by decide +kernel
theorem dX6_both_0 : decode cX6_both 0 = .ok (.iload_n 0, 1) := by decide +kernel
theorem dX6_both_1 : decode cX6_both 1 = .ok (.iload_n 1, 1) := by decide +kernel
theorem dX6_both_2 : decode cX6_both 2 = .ok (.invokestatic 165, 3) := by decide +kernel
theorem dX6_both_5 : decode cX6_both 5 = .ok (.ifCond .eq 15, 3) := by decide +kernel
theorem dX6_both_8 : decode cX6_both 8 = .ok (.iload_n 0, 1) := by decide +kernel
theorem dX6_both_9 : decode cX6_both 9 = .ok (.iload_n 2, 1) := by decide +kernel
theorem dX6_both_10 : decode cX6_both 10 = .ok (.invokestatic 165, 3) := by decide +kernel
theorem dX6_both_13 : decode cX6_both 13 = .ok (.ifCond .eq 7, 3) := by decide +kernel
theorem dX6_both_16 : decode cX6_both 16 = .ok (.iconst 1, 1) := by decide +kernel
theorem dX6_both_17 : decode cX6_both 17 = .ok (.goto 4, 3) := by decide +kernel
theorem dX6_both_20 : decode cX6_both 20 = .ok (.iconst 0, 1) := by decide +kernel
theorem dX6_both_21 : decode cX6_both 21 = .ok (.ireturn, 1) := by decide +kernel
