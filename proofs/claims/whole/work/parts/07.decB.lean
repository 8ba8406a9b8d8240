theorem dX8_init_0 : decode cX8_init 0 = .ok (.aload_n 0, 1) := by decide +kernel
theorem dX8_init_1 : decode cX8_init 1 = .ok (.invokespecial 3, 3) := by decide +kernel
theorem dX8_init_4 : decode cX8_init 4 = .ok (.aload_n 0, 1) := by decide +kernel
theorem dX8_init_5 : decode cX8_init 5 = .ok (.new 9, 3) := by decide +kernel
theorem dX8_init_8 : decode cX8_init 8 = .ok (.dup, 1) := by decide +kernel
theorem dX8_init_9 : decode cX8_init 9 = .ok (.invokespecial 11, 3) := by decide +kernel
theorem dX8_init_12 : decode cX8_init 12 = .ok (.putfield 12, 3) := by decide +kernel
theorem dX8_init_15 : decode cX8_init 15 = .ok (.aload_n 0, 1) := by decide +kernel
theorem dX8_init_16 : decode cX8_init 16 = .ok (.bipush 12, 2) := by decide +kernel
theorem dX8_init_18 : decode cX8_init 18 = .ok (.anewarray 16, 3) := by decide +kernel
theorem dX8_init_21 : decode cX8_init 21 = .ok (.putfield 18, 3) := by decide +kernel
theorem dX8_init_24 : decode cX8_init 24 = .ok (.aload_n 0, 1) := by decide +kernel
theorem dX8_init_25 : decode cX8_init 25 = .ok (.iconst 4, 1) := by decide +kernel
theorem dX8_init_26 : decode cX8_init 26 = .ok (.anewarray 22, 3) := by decide +kernel
theorem dX8_init_29 : decode cX8_init 29 = .ok (.putfield 24, 3) := by decide +kernel
theorem dX8_init_32 : decode cX8_init 32 = .ok (.aload_n 0, 1) := by decide +kernel
theorem dX8_init_33 : decode cX8_init 33 = .ok (.sipush 400, 3) := by decide +kernel
theorem dX8_init_36 : decode cX8_init 36 = .ok (.anewarray 28, 3) := by decide +kernel
theorem dX8_init_39 : decode cX8_init 39 = .ok (.putfield 30, 3) := by decide +kernel
theorem dX8_init_42 : decode cX8_init 42 = .ok (.aload_n 0, 1) := by decide +kernel
theorem dX8_init_43 : decode cX8_init 43 = .ok (.new 34, 3) := by decide +kernel
theorem dX8_init_46 : decode cX8_init 46 = .ok (.dup, 1) := by decide +kernel
theorem dX8_init_47 : decode cX8_init 47 = .ok (.invokespecial 36, 3) := by decide +kernel
theorem dX8_init_50 : decode cX8_init 50 = .ok (.putfield 37, 3) := by decide +kernel
theorem dX8_init_53 : decode cX8_init 53 = .ok (.aload_n 0, 1) := by decide +kernel
theorem dX8_init_54 : decode cX8_init 54 = .ok (.iconst 4, 1) := by decide +kernel
theorem dX8_init_55 : decode cX8_init 55 = .ok (.anewarray 34, 3) := by decide +kernel
theorem dX8_init_58 : decode cX8_init 58 = .ok (.putfield 41, 3) := by decide +kernel
theorem dX8_init_61 : decode cX8_init 61 = .ok (.aload_n 0, 1) := by decide +kernel
theorem dX8_init_62 : decode cX8_init 62 = .ok (.new 45, 3) := by decide +kernel
theorem dX8_init_65 : decode cX8_init 65 = .ok (.dup, 1) := by decide +kernel
theorem dX8_init_66 : decode cX8_init 66 = .ok (.invokespecial 47, 3) := by decide +kernel
theorem dX8_init_69 : decode cX8_init 69 = .ok (.putfield 48, 3) := by decide +kernel
theorem dX8_init_72 : decode cX8_init 72 = .ok (.aload_n 0, 1) := by decide +kernel
theorem dX8_init_73 : decode cX8_init 73 = .ok (.new 52, 3) := by decide +kernel
theorem dX8_init_76 : decode cX8_init 76 = .ok (.dup, 1) := by decide +kernel
theorem dX8_init_77 : decode cX8_init 77 = .ok (.invokespecial 54, 3) := by decide +kernel
theorem dX8_init_80 : decode cX8_init 80 = .ok (.putfield 55, 3) := by decide +kernel
theorem dX8_init_83 : decode cX8_init 83 = .ok (.aload_n 0, 1) := by decide +kernel
theorem dX8_init_84 : decode cX8_init 84 = .ok (.new 59, 3) := by decide +kernel
theorem dX8_init_87 : decode cX8_init 87 = .ok (.dup, 1) := by decide +kernel
theorem dX8_init_88 : decode cX8_init 88 = .ok (.invokespecial 61, 3) := by decide +kernel
theorem dX8_init_91 : decode cX8_init 91 = .ok (.putfield 62, 3) := by decide +kernel
theorem dX8_init_94 : decode cX8_init 94 = .ok (.aload_n 0, 1) := by decide +kernel
theorem dX8_init_95 : decode cX8_init 95 = .ok (.sipush 300, 3) := by decide +kernel
theorem dX8_init_98 : decode cX8_init 98 = .ok (.putfield 66, 3) := by decide +kernel
theorem dX8_init_101 : decode cX8_init 101 = .ok (.return_, 1) := by decide +kernel
theorem dX8_shoal_0 : decode cX8_shoal 0 = .ok (.iload_n 1, 1) := by decide +kernel
theorem dX8_shoal_1 : decode cX8_shoal 1 = .ok (.invokestatic 70, 3) := by decide +kernel
theorem dX8_shoal_4 : decode cX8_shoal 4 = .ok (.ifCond .eq 14, 3) := by decide +kernel
theorem dX8_shoal_7 : decode cX8_shoal 7 = .ok (.iload_n 2, 1) := by decide +kernel
theorem dX8_shoal_8 : decode cX8_shoal 8 = .ok (.iconst 0, 1) := by decide +kernel
theorem dX8_shoal_9 : decode cX8_shoal 9 = .ok (.sipush 10000, 3) := by decide +kernel
theorem dX8_shoal_12 : decode cX8_shoal 12 = .ok (.invokestatic 74, 3) := by decide +kernel
theorem dX8_shoal_15 : decode cX8_shoal 15 = .ok (.ifCond .ne 5, 3) := by decide +kernel
theorem dX8_shoal_18 : decode cX8_shoal 18 = .ok (.iconst 0, 1) := by decide +kernel
theorem dX8_shoal_19 : decode cX8_shoal 19 = .ok (.ireturn, 1) := by decide +kernel
theorem dX8_shoal_20 : decode cX8_shoal 20 = .ok (.aload_n 0, 1) := by decide +kernel
theorem dX8_shoal_21 : decode cX8_shoal 21 = .ok (.getfield 12, 3) := by decide +kernel
theorem dX8_shoal_24 : decode cX8_shoal 24 = .ok (.getfield 78, 3) := by decide +kernel
theorem dX8_shoal_27 : decode cX8_shoal 27 = .ok (.iload_n 1, 1) := by decide +kernel
theorem dX8_shoal_28 : decode cX8_shoal 28 = .ok (.iload_n 2, 1) := by decide +kernel
theorem dX8_shoal_29 : decode cX8_shoal 29 = .ok (.iastore, 1) := by decide +kernel
theorem dX8_shoal_30 : decode cX8_shoal 30 = .ok (.iconst 1, 1) := by decide +kernel
theorem dX8_shoal_31 : decode cX8_shoal 31 = .ok (.ireturn, 1) := by decide +kernel
theorem dX8_open_0 : decode cX8_open 0 = .ok (.iload_n 1, 1) := by decide +kernel
theorem dX8_open_1 : decode cX8_open 1 = .ok (.invokestatic 70, 3) := by decide +kernel
theorem dX8_open_4 : decode cX8_open 4 = .ok (.ifCond .eq 16, 3) := by decide +kernel
theorem dX8_open_7 : decode cX8_open 7 = .ok (.aload_n 0, 1) := by decide +kernel
theorem dX8_open_8 : decode cX8_open 8 = .ok (.getfield 12, 3) := by decide +kernel
theorem dX8_open_11 : decode cX8_open 11 = .ok (.getfield 82, 3) := by decide +kernel
theorem dX8_open_14 : decode cX8_open 14 = .ok (.iload_n 1, 1) := by decide +kernel
theorem dX8_open_15 : decode cX8_open 15 = .ok (.baload, 1) := by decide +kernel
theorem dX8_open_16 : decode cX8_open 16 = .ok (.iload_n 2, 1) := by decide +kernel
theorem dX8_open_17 : decode cX8_open 17 = .ok (.if_icmp .ne 5, 3) := by decide +kernel
theorem dX8_open_20 : decode cX8_open 20 = .ok (.iconst 0, 1) := by decide +kernel
theorem dX8_open_21 : decode cX8_open 21 = .ok (.ireturn, 1) := by decide +kernel
theorem dX8_open_22 : decode cX8_open 22 = .ok (.aload_n 0, 1) := by decide +kernel
theorem dX8_open_23 : decode cX8_open 23 = .ok (.getfield 12, 3) := by decide +kernel
theorem dX8_open_26 : decode cX8_open 26 = .ok (.getfield 82, 3) := by decide +kernel
theorem dX8_open_29 : decode cX8_open 29 = .ok (.iload_n 1, 1) := by decide +kernel
theorem dX8_open_30 : decode cX8_open 30 = .ok (.iload_n 2, 1) := by decide +kernel
theorem dX8_open_31 : decode cX8_open 31 = .ok (.bastore, 1) := by decide +kernel
theorem dX8_open_32 : decode cX8_open 32 = .ok (.iconst 1, 1) := by decide +kernel
theorem dX8_open_33 : decode cX8_open 33 = .ok (.ireturn, 1) := by decide +kernel
theorem dX8_drift_0 : decode cX8_drift 0 = .ok (.iload_n 1, 1) := by decide +kernel
theorem dX8_drift_1 : decode cX8_drift 1 = .ok (.iconst 0, 1) := by decide +kernel
theorem dX8_drift_2 : decode cX8_drift 2 = .ok (.iconst 4, 1) := by decide +kernel
theorem dX8_drift_3 : decode cX8_drift 3 = .ok (.invokestatic 74, 3) := by decide +kernel
theorem dX8_drift_6 : decode cX8_drift 6 = .ok (.ifCond .ne 5, 3) := by decide +kernel
theorem dX8_drift_9 : decode cX8_drift 9 = .ok (.iconst 0, 1) := by decide +kernel
theorem dX8_drift_10 : decode cX8_drift 10 = .ok (.ireturn, 1) := by decide +kernel
theorem dX8_drift_11 : decode cX8_drift 11 = .ok (.aload_n 0, 1) := by decide +kernel
theorem dX8_drift_12 : decode cX8_drift 12 = .ok (.getfield 12, 3) := by decide +kernel
theorem dX8_drift_15 : decode cX8_drift 15 = .ok (.iload_n 1, 1) := by decide +kernel
theorem dX8_drift_16 : decode cX8_drift 16 = .ok (.putfield 86, 3) := by decide +kernel
theorem dX8_drift_19 : decode cX8_drift 19 = .ok (.iconst 1, 1) := by decide +kernel
theorem dX8_drift_20 : decode cX8_drift 20 = .ok (.ireturn, 1) := by decide +kernel
theorem dX8_boat_0 : decode cX8_boat 0 = .ok (.aload_n 0, 1) := by decide +kernel
theorem dX8_boat_1 : decode cX8_boat 1 = .ok (.getfield 89, 3) := by decide +kernel
theorem dX8_boat_4 : decode cX8_boat 4 = .ok (.bipush 12, 2) := by decide +kernel
theorem dX8_boat_6 : decode cX8_boat 6 = .ok (.if_icmp .ge 13, 3) := by decide +kernel
theorem dX8_boat_9 : decode cX8_boat 9 = .ok (.iload_n 1, 1) := by decide +kernel
theorem dX8_boat_10 : decode cX8_boat 10 = .ok (.iconst 0, 1) := by decide +kernel
theorem dX8_boat_11 : decode cX8_boat 11 = .ok (.bipush 60, 2) := by decide +kernel
theorem dX8_boat_13 : decode cX8_boat 13 = .ok (.invokestatic 74, 3) := by decide +kernel
theorem dX8_boat_16 : decode cX8_boat 16 = .ok (.ifCond .ne 5, 3) := by decide +kernel
theorem dX8_boat_19 : decode cX8_boat 19 = .ok (.iconst (-1), 1) := by decide +kernel
theorem dX8_boat_20 : decode cX8_boat 20 = .ok (.ireturn, 1) := by decide +kernel
theorem dX8_boat_21 : decode cX8_boat 21 = .ok (.aload_n 0, 1) := by decide +kernel
theorem dX8_boat_22 : decode cX8_boat 22 = .ok (.getfield 18, 3) := by decide +kernel
theorem dX8_boat_25 : decode cX8_boat 25 = .ok (.aload_n 0, 1) := by decide +kernel
theorem dX8_boat_26 : decode cX8_boat 26 = .ok (.getfield 89, 3) := by decide +kernel
theorem dX8_boat_29 : decode cX8_boat 29 = .ok (.new 16, 3) := by decide +kernel
theorem dX8_boat_32 : decode cX8_boat 32 = .ok (.dup, 1) := by decide +kernel
theorem dX8_boat_33 : decode cX8_boat 33 = .ok (.iload_n 1, 1) := by decide +kernel
theorem dX8_boat_34 : decode cX8_boat 34 = .ok (.invokespecial 92, 3) := by decide +kernel
theorem dX8_boat_37 : decode cX8_boat 37 = .ok (.aastore, 1) := by decide +kernel
theorem dX8_boat_38 : decode cX8_boat 38 = .ok (.aload_n 0, 1) := by decide +kernel
theorem dX8_boat_39 : decode cX8_boat 39 = .ok (.dup, 1) := by decide +kernel
theorem dX8_boat_40 : decode cX8_boat 40 = .ok (.getfield 89, 3) := by decide +kernel
theorem dX8_boat_43 : decode cX8_boat 43 = .ok (.iconst 1, 1) := by decide +kernel
theorem dX8_boat_44 : decode cX8_boat 44 = .ok (.iadd, 1) := by decide +kernel
theorem dX8_boat_45 : decode cX8_boat 45 = .ok (.putfield 89, 3) := by decide +kernel
theorem dX8_boat_48 : decode cX8_boat 48 = .ok (.aload_n 0, 1) := by decide +kernel
theorem dX8_boat_49 : decode cX8_boat 49 = .ok (.getfield 89, 3) := by decide +kernel
theorem dX8_boat_52 : decode cX8_boat 52 = .ok (.iconst 1, 1) := by decide +kernel
theorem dX8_boat_53 : decode cX8_boat 53 = .ok (.isub, 1) := by decide +kernel
theorem dX8_boat_54 : decode cX8_boat 54 = .ok (.ireturn, 1) := by decide +kernel
theorem dX8_go_0 : decode cX8_go 0 = .ok (.aload_n 0, 1) := by decide +kernel
theorem dX8_go_1 : decode cX8_go 1 = .ok (.iload_n 1, 1) := by decide +kernel
theorem dX8_go_2 : decode cX8_go 2 = .ok (.invokevirtual 95, 3) := by decide +kernel
theorem dX8_go_5 : decode cX8_go 5 = .ok (.astore_n 3, 1) := by decide +kernel
theorem dX8_go_6 : decode cX8_go 6 = .ok (.aload_n 3, 1) := by decide +kernel
theorem dX8_go_7 : decode cX8_go 7 = .ok (.ifnull 15, 3) := by decide +kernel
theorem dX8_go_10 : decode cX8_go 10 = .ok (.iload_n 2, 1) := by decide +kernel
theorem dX8_go_11 : decode cX8_go 11 = .ok (.iconst (-1), 1) := by decide +kernel
theorem dX8_go_12 : decode cX8_go 12 = .ok (.if_icmp .eq 12, 3) := by decide +kernel
theorem dX8_go_15 : decode cX8_go 15 = .ok (.iload_n 2, 1) := by decide +kernel
theorem dX8_go_16 : decode cX8_go 16 = .ok (.invokestatic 70, 3) := by decide +kernel
theorem dX8_go_19 : decode cX8_go 19 = .ok (.ifCond .ne 5, 3) := by decide +kernel
theorem dX8_go_22 : decode cX8_go 22 = .ok (.iconst 0, 1) := by decide +kernel
theorem dX8_go_23 : decode cX8_go 23 = .ok (.ireturn, 1) := by decide +kernel
theorem dX8_go_24 : decode cX8_go 24 = .ok (.aload_n 3, 1) := by decide +kernel
theorem dX8_go_25 : decode cX8_go 25 = .ok (.iload_n 2, 1) := by decide +kernel
theorem dX8_go_26 : decode cX8_go 26 = .ok (.putfield 99, 3) := by decide +kernel
theorem dX8_go_29 : decode cX8_go 29 = .ok (.iconst 1, 1) := by decide +kernel
theorem dX8_go_30 : decode cX8_go 30 = .ok (.ireturn, 1) := by decide +kernel
theorem dX8_mend_0 : decode cX8_mend 0 = .ok (.aload_n 0, 1) := by decide +kernel
theorem dX8_mend_1 : decode cX8_mend 1 = .ok (.iload_n 1, 1) := by decide +kernel
theorem dX8_mend_2 : decode cX8_mend 2 = .ok (.invokevirtual 95, 3) := by decide +kernel
theorem dX8_mend_5 : decode cX8_mend 5 = .ok (.astore_n 3, 1) := by decide +kernel
theorem dX8_mend_6 : decode cX8_mend 6 = .ok (.aload_n 3, 1) := by decide +kernel
theorem dX8_mend_7 : decode cX8_mend 7 = .ok (.ifnull 19, 3) := by decide +kernel
theorem dX8_mend_10 : decode cX8_mend 10 = .ok (.iload_n 2, 1) := by decide +kernel
theorem dX8_mend_11 : decode cX8_mend 11 = .ok (.iconst 1, 1) := by decide +kernel
theorem dX8_mend_12 : decode cX8_mend 12 = .ok (.if_icmp .lt 14, 3) := by decide +kernel
theorem dX8_mend_15 : decode cX8_mend 15 = .ok (.iload_n 2, 1) := by decide +kernel
theorem dX8_mend_16 : decode cX8_mend 16 = .ok (.bipush 60, 2) := by decide +kernel
theorem dX8_mend_18 : decode cX8_mend 18 = .ok (.aload_n 3, 1) := by decide +kernel
theorem dX8_mend_19 : decode cX8_mend 19 = .ok (.getfield 102, 3) := by decide +kernel
theorem dX8_mend_22 : decode cX8_mend 22 = .ok (.isub, 1) := by decide +kernel
theorem dX8_mend_23 : decode cX8_mend 23 = .ok (.if_icmp .le 5, 3) := by decide +kernel
theorem dX8_mend_26 : decode cX8_mend 26 = .ok (.iconst (-1), 1) := by decide +kernel
theorem dX8_mend_27 : decode cX8_mend 27 = .ok (.ireturn, 1) := by decide +kernel
theorem dX8_mend_28 : decode cX8_mend 28 = .ok (.aload_n 3, 1) := by decide +kernel
theorem dX8_mend_29 : decode cX8_mend 29 = .ok (.dup, 1) := by decide +kernel
theorem dX8_mend_30 : decode cX8_mend 30 = .ok (.getfield 102, 3) := by decide +kernel
theorem dX8_mend_33 : decode cX8_mend 33 = .ok (.iload_n 2, 1) := by decide +kernel
theorem dX8_mend_34 : decode cX8_mend 34 = .ok (.iadd, 1) := by decide +kernel
theorem dX8_mend_35 : decode cX8_mend 35 = .ok (.putfield 102, 3) := by decide +kernel
theorem dX8_mend_38 : decode cX8_mend 38 = .ok (.aload_n 3, 1) := by decide +kernel
theorem dX8_mend_39 : decode cX8_mend 39 = .ok (.getfield 102, 3) := by decide +kernel
theorem dX8_mend_42 : decode cX8_mend 42 = .ok (.ireturn, 1) := by decide +kernel
theorem dX8_yard_0 : decode cX8_yard 0 = .ok (.aload_n 0, 1) := by decide +kernel
theorem dX8_yard_1 : decode cX8_yard 1 = .ok (.getfield 105, 3) := by decide +kernel
theorem dX8_yard_4 : decode cX8_yard 4 = .ok (.iconst 4, 1) := by decide +kernel
theorem dX8_yard_5 : decode cX8_yard 5 = .ok (.if_icmp .ge 24, 3) := by decide +kernel
theorem dX8_yard_8 : decode cX8_yard 8 = .ok (.iload_n 1, 1) := by decide +kernel
theorem dX8_yard_9 : decode cX8_yard 9 = .ok (.iconst 1, 1) := by decide +kernel
theorem dX8_yard_10 : decode cX8_yard 10 = .ok (.bipush 6, 2) := by decide +kernel
theorem dX8_yard_12 : decode cX8_yard 12 = .ok (.invokestatic 74, 3) := by decide +kernel
theorem dX8_yard_15 : decode cX8_yard 15 = .ok (.ifCond .eq 14, 3) := by decide +kernel
theorem dX8_yard_18 : decode cX8_yard 18 = .ok (.iload_n 2, 1) := by decide +kernel
theorem dX8_yard_19 : decode cX8_yard 19 = .ok (.iconst 1, 1) := by decide +kernel
theorem dX8_yard_20 : decode cX8_yard 20 = .ok (.sipush 500, 3) := by decide +kernel
theorem dX8_yard_23 : decode cX8_yard 23 = .ok (.invokestatic 74, 3) := by decide +kernel
theorem dX8_yard_26 : decode cX8_yard 26 = .ok (.ifCond .ne 5, 3) := by decide +kernel
theorem dX8_yard_29 : decode cX8_yard 29 = .ok (.iconst (-1), 1) := by decide +kernel
theorem dX8_yard_30 : decode cX8_yard 30 = .ok (.ireturn, 1) := by decide +kernel
theorem dX8_yard_31 : decode cX8_yard 31 = .ok (.aload_n 0, 1) := by decide +kernel
theorem dX8_yard_32 : decode cX8_yard 32 = .ok (.getfield 24, 3) := by decide +kernel
theorem dX8_yard_35 : decode cX8_yard 35 = .ok (.aload_n 0, 1) := by decide +kernel
theorem dX8_yard_36 : decode cX8_yard 36 = .ok (.getfield 105, 3) := by decide +kernel
theorem dX8_yard_39 : decode cX8_yard 39 = .ok (.new 22, 3) := by decide +kernel
theorem dX8_yard_42 : decode cX8_yard 42 = .ok (.dup, 1) := by decide +kernel
theorem dX8_yard_43 : decode cX8_yard 43 = .ok (.iload_n 1, 1) := by decide +kernel
theorem dX8_yard_44 : decode cX8_yard 44 = .ok (.iload_n 2, 1) := by decide +kernel
theorem dX8_yard_45 : decode cX8_yard 45 = .ok (.invokespecial 108, 3) := by decide +kernel
theorem dX8_yard_48 : decode cX8_yard 48 = .ok (.aastore, 1) := by decide +kernel
theorem dX8_yard_49 : decode cX8_yard 49 = .ok (.aload_n 0, 1) := by decide +kernel
theorem dX8_yard_50 : decode cX8_yard 50 = .ok (.dup, 1) := by decide +kernel
theorem dX8_yard_51 : decode cX8_yard 51 = .ok (.getfield 105, 3) := by decide +kernel
theorem dX8_yard_54 : decode cX8_yard 54 = .ok (.iconst 1, 1) := by decide +kernel
theorem dX8_yard_55 : decode cX8_yard 55 = .ok (.iadd, 1) := by decide +kernel
theorem dX8_yard_56 : decode cX8_yard 56 = .ok (.putfield 105, 3) := by decide +kernel
theorem dX8_yard_59 : decode cX8_yard 59 = .ok (.aload_n 0, 1) := by decide +kernel
theorem dX8_yard_60 : decode cX8_yard 60 = .ok (.getfield 105, 3) := by decide +kernel
theorem dX8_yard_63 : decode cX8_yard 63 = .ok (.iconst 1, 1) := by decide +kernel
theorem dX8_yard_64 : decode cX8_yard 64 = .ok (.isub, 1) := by decide +kernel
theorem dX8_yard_65 : decode cX8_yard 65 = .ok (.ireturn, 1) := by decide +kernel
theorem dX8_bid_0 : decode cX8_bid 0 = .ok (.aload_n 0, 1) := by decide +kernel
theorem dX8_bid_1 : decode cX8_bid 1 = .ok (.iload_n 1, 1) := by decide +kernel
theorem dX8_bid_2 : decode cX8_bid 2 = .ok (.invokevirtual 111, 3) := by decide +kernel
theorem dX8_bid_5 : decode cX8_bid 5 = .ok (.astore_n 3, 1) := by decide +kernel
theorem dX8_bid_6 : decode cX8_bid 6 = .ok (.aload_n 3, 1) := by decide +kernel
theorem dX8_bid_7 : decode cX8_bid 7 = .ok (.ifnull 13, 3) := by decide +kernel
theorem dX8_bid_10 : decode cX8_bid 10 = .ok (.iload_n 2, 1) := by decide +kernel
theorem dX8_bid_11 : decode cX8_bid 11 = .ok (.iconst 0, 1) := by decide +kernel
theorem dX8_bid_12 : decode cX8_bid 12 = .ok (.bipush 100, 2) := by decide +kernel
theorem dX8_bid_14 : decode cX8_bid 14 = .ok (.invokestatic 74, 3) := by decide +kernel
theorem dX8_bid_17 : decode cX8_bid 17 = .ok (.ifCond .ne 5, 3) := by decide +kernel
theorem dX8_bid_20 : decode cX8_bid 20 = .ok (.iconst 0, 1) := by decide +kernel
theorem dX8_bid_21 : decode cX8_bid 21 = .ok (.ireturn, 1) := by decide +kernel
theorem dX8_bid_22 : decode cX8_bid 22 = .ok (.aload_n 3, 1) := by decide +kernel
theorem dX8_bid_23 : decode cX8_bid 23 = .ok (.iload_n 2, 1) := by decide +kernel
theorem dX8_bid_24 : decode cX8_bid 24 = .ok (.putfield 115, 3) := by decide +kernel
theorem dX8_bid_27 : decode cX8_bid 27 = .ok (.iconst 1, 1) := by decide +kernel
theorem dX8_bid_28 : decode cX8_bid 28 = .ok (.ireturn, 1) := by decide +kernel
theorem dX8_soft_0 : decode cX8_soft 0 = .ok (.iload_n 1, 1) := by decide +kernel
theorem dX8_soft_1 : decode cX8_soft 1 = .ok (.iconst 0, 1) := by decide +kernel
theorem dX8_soft_2 : decode cX8_soft 2 = .ok (.sipush 2000, 3) := by decide +kernel
theorem dX8_soft_5 : decode cX8_soft 5 = .ok (.invokestatic 74, 3) := by decide +kernel
theorem dX8_soft_8 : decode cX8_soft 8 = .ok (.ifCond .ne 5, 3) := by decide +kernel
theorem dX8_soft_11 : decode cX8_soft 11 = .ok (.iconst 0, 1) := by decide +kernel
theorem dX8_soft_12 : decode cX8_soft 12 = .ok (.ireturn, 1) := by decide +kernel
theorem dX8_soft_13 : decode cX8_soft 13 = .ok (.aload_n 0, 1) := by decide +kernel
theorem dX8_soft_14 : decode cX8_soft 14 = .ok (.iload_n 1, 1) := by decide +kernel
theorem dX8_soft_15 : decode cX8_soft 15 = .ok (.putfield 66, 3) := by decide +kernel
theorem dX8_soft_18 : decode cX8_soft 18 = .ok (.iconst 1, 1) := by decide +kernel
theorem dX8_soft_19 : decode cX8_soft 19 = .ok (.ireturn, 1) := by decide +kernel
theorem dX8_night_0 : decode cX8_night 0 = .ok (.aload_n 0, 1) := by decide +kernel
theorem dX8_night_1 : decode cX8_night 1 = .ok (.getfield 118, 3) := by decide +kernel
theorem dX8_night_4 : decode cX8_night 4 = .ok (.sipush 300, 3) := by decide +kernel
theorem dX8_night_7 : decode cX8_night 7 = .ok (.if_icmp .lt 5, 3) := by decide +kernel
theorem dX8_night_10 : decode cX8_night 10 = .ok (.iconst (-1), 1) := by decide +kernel
theorem dX8_night_11 : decode cX8_night 11 = .ok (.ireturn, 1) := by decide +kernel
theorem dX8_night_12 : decode cX8_night 12 = .ok (.aload_n 0, 1) := by decide +kernel
theorem dX8_night_13 : decode cX8_night 13 = .ok (.getfield 121, 3) := by decide +kernel
theorem dX8_night_16 : decode cX8_night 16 = .ok (.istore_n 2, 1) := by decide +kernel
theorem dX8_night_17 : decode cX8_night 17 = .ok (.aload_n 0, 1) := by decide +kernel
theorem dX8_night_18 : decode cX8_night 18 = .ok (.iload_n 1, 1) := by decide +kernel
theorem dX8_night_19 : decode cX8_night 19 = .ok (.invokevirtual 124, 3) := by decide +kernel
theorem dX8_night_22 : decode cX8_night 22 = .ok (.aload_n 0, 1) := by decide +kernel
theorem dX8_night_23 : decode cX8_night 23 = .ok (.iload_n 1, 1) := by decide +kernel
theorem dX8_night_24 : decode cX8_night 24 = .ok (.invokevirtual 128, 3) := by decide +kernel
theorem dX8_night_27 : decode cX8_night 27 = .ok (.istore_n 3, 1) := by decide +kernel
theorem dX8_night_28 : decode cX8_night 28 = .ok (.aload_n 0, 1) := by decide +kernel
theorem dX8_night_29 : decode cX8_night 29 = .ok (.getfield 12, 3) := by decide +kernel
theorem dX8_night_32 : decode cX8_night 32 = .ok (.invokevirtual 132, 3) := by decide +kernel
theorem dX8_night_35 : decode cX8_night 35 = .ok (.aload_n 0, 1) := by decide +kernel
theorem dX8_night_36 : decode cX8_night 36 = .ok (.invokevirtual 135, 3) := by decide +kernel
theorem dX8_night_39 : decode cX8_night 39 = .ok (.aload_n 0, 1) := by decide +kernel
theorem dX8_night_40 : decode cX8_night 40 = .ok (.iload_n 2, 1) := by decide +kernel
theorem dX8_night_41 : decode cX8_night 41 = .ok (.invokevirtual 138, 3) := by decide +kernel
theorem dX8_night_44 : decode cX8_night 44 = .ok (.aload_n 0, 1) := by decide +kernel
theorem dX8_night_45 : decode cX8_night 45 = .ok (.dup, 1) := by decide +kernel
theorem dX8_night_46 : decode cX8_night 46 = .ok (.getfield 118, 3) := by decide +kernel
theorem dX8_night_49 : decode cX8_night 49 = .ok (.iconst 1, 1) := by decide +kernel
theorem dX8_night_50 : decode cX8_night 50 = .ok (.iadd, 1) := by decide +kernel
theorem dX8_night_51 : decode cX8_night 51 = .ok (.putfield 118, 3) := by decide +kernel
theorem dX8_night_54 : decode cX8_night 54 = .ok (.iload_n 3, 1) := by decide +kernel
theorem dX8_night_55 : decode cX8_night 55 = .ok (.ireturn, 1) := by decide +kernel
theorem dX8_feed_0 : decode cX8_feed 0 = .ok (.iload_n 1, 1) := by decide +kernel
theorem dX8_feed_1 : decode cX8_feed 1 = .ok (.invokestatic 141, 3) := by decide +kernel
theorem dX8_feed_4 : decode cX8_feed 4 = .ok (.iload_n 2, 1) := by decide +kernel
theorem dX8_feed_5 : decode cX8_feed 5 = .ok (.invokestatic 141, 3) := by decide +kernel
theorem dX8_feed_8 : decode cX8_feed 8 = .ok (.iadd, 1) := by decide +kernel
theorem dX8_feed_9 : decode cX8_feed 9 = .ok (.iload_n 3, 1) := by decide +kernel
theorem dX8_feed_10 : decode cX8_feed 10 = .ok (.invokestatic 141, 3) := by decide +kernel
theorem dX8_feed_13 : decode cX8_feed 13 = .ok (.iadd, 1) := by decide +kernel
theorem dX8_feed_14 : decode cX8_feed 14 = .ok (.iload 4, 2) := by decide +kernel
theorem dX8_feed_16 : decode cX8_feed 16 = .ok (.invokestatic 141, 3) := by decide +kernel
theorem dX8_feed_19 : decode cX8_feed 19 = .ok (.iadd, 1) := by decide +kernel
theorem dX8_feed_20 : decode cX8_feed 20 = .ok (.iload 5, 2) := by decide +kernel
theorem dX8_feed_22 : decode cX8_feed 22 = .ok (.invokestatic 141, 3) := by decide +kernel
theorem dX8_feed_25 : decode cX8_feed 25 = .ok (.iadd, 1) := by decide +kernel
theorem dX8_feed_26 : decode cX8_feed 26 = .ok (.istore 6, 2) := by decide +kernel
theorem dX8_feed_28 : decode cX8_feed 28 = .ok (.iload 6, 2) := by decide +kernel
theorem dX8_feed_30 : decode cX8_feed 30 = .ok (.sipush 200, 3) := by decide +kernel
theorem dX8_feed_33 : decode cX8_feed 33 = .ok (.aload_n 0, 1) := by decide +kernel
theorem dX8_feed_34 : decode cX8_feed 34 = .ok (.getfield 37, 3) := by decide +kernel
theorem dX8_feed_37 : decode cX8_feed 37 = .ok (.getfield 145, 3) := by decide +kernel
theorem dX8_feed_40 : decode cX8_feed 40 = .ok (.isub, 1) := by decide +kernel
theorem dX8_feed_41 : decode cX8_feed 41 = .ok (.if_icmp .le 5, 3) := by decide +kernel
theorem dX8_feed_44 : decode cX8_feed 44 = .ok (.iconst (-1), 1) := by decide +kernel
theorem dX8_feed_45 : decode cX8_feed 45 = .ok (.ireturn, 1) := by decide +kernel
theorem dX8_feed_46 : decode cX8_feed 46 = .ok (.aload_n 0, 1) := by decide +kernel
theorem dX8_feed_47 : decode cX8_feed 47 = .ok (.getfield 37, 3) := by decide +kernel
theorem dX8_feed_50 : decode cX8_feed 50 = .ok (.iload_n 1, 1) := by decide +kernel
theorem dX8_feed_51 : decode cX8_feed 51 = .ok (.invokevirtual 148, 3) := by decide +kernel
theorem dX8_feed_54 : decode cX8_feed 54 = .ok (.aload_n 0, 1) := by decide +kernel
theorem dX8_feed_55 : decode cX8_feed 55 = .ok (.getfield 37, 3) := by decide +kernel
theorem dX8_feed_58 : decode cX8_feed 58 = .ok (.iload_n 2, 1) := by decide +kernel
theorem dX8_feed_59 : decode cX8_feed 59 = .ok (.invokevirtual 148, 3) := by decide +kernel
theorem dX8_feed_62 : decode cX8_feed 62 = .ok (.aload_n 0, 1) := by decide +kernel
theorem dX8_feed_63 : decode cX8_feed 63 = .ok (.getfield 37, 3) := by decide +kernel
theorem dX8_feed_66 : decode cX8_feed 66 = .ok (.iload_n 3, 1) := by decide +kernel
theorem dX8_feed_67 : decode cX8_feed 67 = .ok (.invokevirtual 148, 3) := by decide +kernel
theorem dX8_feed_70 : decode cX8_feed 70 = .ok (.aload_n 0, 1) := by decide +kernel
theorem dX8_feed_71 : decode cX8_feed 71 = .ok (.getfield 37, 3) := by decide +kernel
theorem dX8_feed_74 : decode cX8_feed 74 = .ok (.iload 4, 2) := by decide +kernel
theorem dX8_feed_76 : decode cX8_feed 76 = .ok (.invokevirtual 148, 3) := by decide +kernel
theorem dX8_feed_79 : decode cX8_feed 79 = .ok (.aload_n 0, 1) := by decide +kernel
theorem dX8_feed_80 : decode cX8_feed 80 = .ok (.getfield 37, 3) := by decide +kernel
theorem dX8_feed_83 : decode cX8_feed 83 = .ok (.iload 5, 2) := by decide +kernel
theorem dX8_feed_85 : decode cX8_feed 85 = .ok (.invokevirtual 148, 3) := by decide +kernel
theorem dX8_feed_88 : decode cX8_feed 88 = .ok (.aload_n 0, 1) := by decide +kernel
theorem dX8_feed_89 : decode cX8_feed 89 = .ok (.getfield 37, 3) := by decide +kernel
theorem dX8_feed_92 : decode cX8_feed 92 = .ok (.getfield 145, 3) := by decide +kernel
theorem dX8_feed_95 : decode cX8_feed 95 = .ok (.ireturn, 1) := by decide +kernel
theorem dX8_end_0 : decode cX8_end 0 = .ok (.iload_n 1, 1) := by decide +kernel
theorem dX8_end_1 : decode cX8_end 1 = .ok (.iconst 0, 1) := by decide +kernel
theorem dX8_end_2 : decode cX8_end 2 = .ok (.aload_n 0, 1) := by decide +kernel
theorem dX8_end_3 : decode cX8_end 3 = .ok (.getfield 37, 3) := by decide +kernel
theorem dX8_end_6 : decode cX8_end 6 = .ok (.getfield 145, 3) := by decide +kernel
theorem dX8_end_9 : decode cX8_end 9 = .ok (.invokestatic 74, 3) := by decide +kernel
theorem dX8_end_12 : decode cX8_end 12 = .ok (.ifCond .ne 5, 3) := by decide +kernel
theorem dX8_end_15 : decode cX8_end 15 = .ok (.iconst 0, 1) := by decide +kernel
theorem dX8_end_16 : decode cX8_end 16 = .ok (.ireturn, 1) := by decide +kernel
theorem dX8_end_17 : decode cX8_end 17 = .ok (.aload_n 0, 1) := by decide +kernel
theorem dX8_end_18 : decode cX8_end 18 = .ok (.getfield 37, 3) := by decide +kernel
theorem dX8_end_21 : decode cX8_end 21 = .ok (.iload_n 1, 1) := by decide +kernel
theorem dX8_end_22 : decode cX8_end 22 = .ok (.putfield 145, 3) := by decide +kernel
theorem dX8_end_25 : decode cX8_end 25 = .ok (.iconst 1, 1) := by decide +kernel
theorem dX8_end_26 : decode cX8_end 26 = .ok (.ireturn, 1) := by decide +kernel
theorem dX8_fault_0 : decode cX8_fault 0 = .ok (.aload_n 0, 1) := by decide +kernel
theorem dX8_fault_1 : decode cX8_fault 1 = .ok (.getfield 55, 3) := by decide +kernel
theorem dX8_fault_4 : decode cX8_fault 4 = .ok (.aload_n 0, 1) := by decide +kernel
theorem dX8_fault_5 : decode cX8_fault 5 = .ok (.getfield 37, 3) := by decide +kernel
theorem dX8_fault_8 : decode cX8_fault 8 = .ok (.invokevirtual 151, 3) := by decide +kernel
theorem dX8_fault_11 : decode cX8_fault 11 = .ok (.ireturn, 1) := by decide +kernel
theorem dX8_brand_0 : decode cX8_brand 0 = .ok (.iload_n 1, 1) := by decide +kernel
theorem dX8_brand_1 : decode cX8_brand 1 = .ok (.iconst 0, 1) := by decide +kernel
theorem dX8_brand_2 : decode cX8_brand 2 = .ok (.iconst 3, 1) := by decide +kernel
theorem dX8_brand_3 : decode cX8_brand 3 = .ok (.invokestatic 74, 3) := by decide +kernel
theorem dX8_brand_6 : decode cX8_brand 6 = .ok (.ifCond .eq 18, 3) := by decide +kernel
theorem dX8_brand_9 : decode cX8_brand 9 = .ok (.aload_n 0, 1) := by decide +kernel
theorem dX8_brand_10 : decode cX8_brand 10 = .ok (.getfield 55, 3) := by decide +kernel
theorem dX8_brand_13 : decode cX8_brand 13 = .ok (.aload_n 0, 1) := by decide +kernel
theorem dX8_brand_14 : decode cX8_brand 14 = .ok (.getfield 37, 3) := by decide +kernel
theorem dX8_brand_17 : decode cX8_brand 17 = .ok (.invokevirtual 151, 3) := by decide +kernel
theorem dX8_brand_20 : decode cX8_brand 20 = .ok (.iconst (-1), 1) := by decide +kernel
theorem dX8_brand_21 : decode cX8_brand 21 = .ok (.if_icmp .eq 5, 3) := by decide +kernel
theorem dX8_brand_24 : decode cX8_brand 24 = .ok (.iconst 0, 1) := by decide +kernel
theorem dX8_brand_25 : decode cX8_brand 25 = .ok (.ireturn, 1) := by decide +kernel
theorem dX8_brand_26 : decode cX8_brand 26 = .ok (.aload_n 0, 1) := by decide +kernel
theorem dX8_brand_27 : decode cX8_brand 27 = .ok (.getfield 41, 3) := by decide +kernel
theorem dX8_brand_30 : decode cX8_brand 30 = .ok (.iload_n 1, 1) := by decide +kernel
theorem dX8_brand_31 : decode cX8_brand 31 = .ok (.aaload, 1) := by decide +kernel
theorem dX8_brand_32 : decode cX8_brand 32 = .ok (.astore_n 2, 1) := by decide +kernel
theorem dX8_brand_33 : decode cX8_brand 33 = .ok (.aload_n 2, 1) := by decide +kernel
theorem dX8_brand_34 : decode cX8_brand 34 = .ok (.ifnonnull 18, 3) := by decide +kernel
theorem dX8_brand_37 : decode cX8_brand 37 = .ok (.new 34, 3) := by decide +kernel
theorem dX8_brand_40 : decode cX8_brand 40 = .ok (.dup, 1) := by decide +kernel
theorem dX8_brand_41 : decode cX8_brand 41 = .ok (.invokespecial 36, 3) := by decide +kernel
theorem dX8_brand_44 : decode cX8_brand 44 = .ok (.astore_n 2, 1) := by decide +kernel
theorem dX8_brand_45 : decode cX8_brand 45 = .ok (.aload_n 0, 1) := by decide +kernel
theorem dX8_brand_46 : decode cX8_brand 46 = .ok (.getfield 41, 3) := by decide +kernel
theorem dX8_brand_49 : decode cX8_brand 49 = .ok (.iload_n 1, 1) := by decide +kernel
theorem dX8_brand_50 : decode cX8_brand 50 = .ok (.aload_n 2, 1) := by decide +kernel
theorem dX8_brand_51 : decode cX8_brand 51 = .ok (.aastore, 1) := by decide +kernel
theorem dX8_brand_52 : decode cX8_brand 52 = .ok (.aload_n 2, 1) := by decide +kernel
theorem dX8_brand_53 : decode cX8_brand 53 = .ok (.aload_n 0, 1) := by decide +kernel
theorem dX8_brand_54 : decode cX8_brand 54 = .ok (.getfield 37, 3) := by decide +kernel
theorem dX8_brand_57 : decode cX8_brand 57 = .ok (.invokevirtual 155, 3) := by decide +kernel
theorem dX8_brand_60 : decode cX8_brand 60 = .ok (.aload_n 0, 1) := by decide +kernel
theorem dX8_brand_61 : decode cX8_brand 61 = .ok (.getfield 37, 3) := by decide +kernel
theorem dX8_brand_64 : decode cX8_brand 64 = .ok (.iconst 0, 1) := by decide +kernel
theorem dX8_brand_65 : decode cX8_brand 65 = .ok (.putfield 145, 3) := by decide +kernel
theorem dX8_brand_68 : decode cX8_brand 68 = .ok (.iconst 1, 1) := by decide +kernel
theorem dX8_brand_69 : decode cX8_brand 69 = .ok (.ireturn, 1) := by decide +kernel
theorem dX8_judge_0 : decode cX8_judge 0 = .ok (.aload_n 0, 1) := by decide +kernel
theorem dX8_judge_1 : decode cX8_judge 1 = .ok (.iload_n 1, 1) := by decide +kernel
theorem dX8_judge_2 : decode cX8_judge 2 = .ok (.invokevirtual 159, 3) := by decide +kernel
theorem dX8_judge_5 : decode cX8_judge 5 = .ok (.astore_n 3, 1) := by decide +kernel
theorem dX8_judge_6 : decode cX8_judge 6 = .ok (.aload_n 0, 1) := by decide +kernel
theorem dX8_judge_7 : decode cX8_judge 7 = .ok (.iload_n 2, 1) := by decide +kernel
theorem dX8_judge_8 : decode cX8_judge 8 = .ok (.invokevirtual 163, 3) := by decide +kernel
theorem dX8_judge_11 : decode cX8_judge 11 = .ok (.astore 4, 2) := by decide +kernel
theorem dX8_judge_13 : decode cX8_judge 13 = .ok (.aload_n 3, 1) := by decide +kernel
theorem dX8_judge_14 : decode cX8_judge 14 = .ok (.ifnull 8, 3) := by decide +kernel
theorem dX8_judge_17 : decode cX8_judge 17 = .ok (.aload 4, 2) := by decide +kernel
theorem dX8_judge_19 : decode cX8_judge 19 = .ok (.ifnonnull 5, 3) := by decide +kernel
theorem dX8_judge_22 : decode cX8_judge 22 = .ok (.iconst (-1), 1) := by decide +kernel
theorem dX8_judge_23 : decode cX8_judge 23 = .ok (.ireturn, 1) := by decide +kernel
theorem dX8_judge_24 : decode cX8_judge 24 = .ok (.aload_n 0, 1) := by decide +kernel
theorem dX8_judge_25 : decode cX8_judge 25 = .ok (.getfield 62, 3) := by decide +kernel
theorem dX8_judge_28 : decode cX8_judge 28 = .ok (.aload_n 3, 1) := by decide +kernel
theorem dX8_judge_29 : decode cX8_judge 29 = .ok (.aload 4, 2) := by decide +kernel
theorem dX8_judge_31 : decode cX8_judge 31 = .ok (.aload_n 0, 1) := by decide +kernel
theorem dX8_judge_32 : decode cX8_judge 32 = .ok (.getfield 118, 3) := by decide +kernel
theorem dX8_judge_35 : decode cX8_judge 35 = .ok (.invokevirtual 167, 3) := by decide +kernel
theorem dX8_judge_38 : decode cX8_judge 38 = .ok (.ifCond .eq 7, 3) := by decide +kernel
theorem dX8_judge_41 : decode cX8_judge 41 = .ok (.iconst 1, 1) := by decide +kernel
theorem dX8_judge_42 : decode cX8_judge 42 = .ok (.goto 4, 3) := by decide +kernel
theorem dX8_judge_45 : decode cX8_judge 45 = .ok (.iconst 0, 1) := by decide +kernel
theorem dX8_judge_46 : decode cX8_judge 46 = .ok (.ireturn, 1) := by decide +kernel
theorem dX8_branded_0 : decode cX8_branded 0 = .ok (.aload_n 0, 1) := by decide +kernel
theorem dX8_branded_1 : decode cX8_branded 1 = .ok (.iload_n 1, 1) := by decide +kernel
theorem dX8_branded_2 : decode cX8_branded 2 = .ok (.invokevirtual 163, 3) := by decide +kernel
theorem dX8_branded_5 : decode cX8_branded 5 = .ok (.astore_n 2, 1) := by decide +kernel
theorem dX8_branded_6 : decode cX8_branded 6 = .ok (.aload_n 2, 1) := by decide +kernel
theorem dX8_branded_7 : decode cX8_branded 7 = .ok (.ifnonnull 5, 3) := by decide +kernel
theorem dX8_branded_10 : decode cX8_branded 10 = .ok (.iconst (-1), 1) := by decide +kernel
theorem dX8_branded_11 : decode cX8_branded 11 = .ok (.ireturn, 1) := by decide +kernel
theorem dX8_branded_12 : decode cX8_branded 12 = .ok (.iconst 0, 1) := by decide +kernel
theorem dX8_branded_13 : decode cX8_branded 13 = .ok (.istore_n 3, 1) := by decide +kernel
theorem dX8_branded_14 : decode cX8_branded 14 = .ok (.iload_n 3, 1) := by decide +kernel
theorem dX8_branded_15 : decode cX8_branded 15 = .ok (.iconst 4, 1) := by decide +kernel
theorem dX8_branded_16 : decode cX8_branded 16 = .ok (.if_icmp .ge 40, 3) := by decide +kernel
theorem dX8_branded_19 : decode cX8_branded 19 = .ok (.aload_n 0, 1) := by decide +kernel
theorem dX8_branded_20 : decode cX8_branded 20 = .ok (.iload_n 3, 1) := by decide +kernel
theorem dX8_branded_21 : decode cX8_branded 21 = .ok (.invokevirtual 159, 3) := by decide +kernel
theorem dX8_branded_24 : decode cX8_branded 24 = .ok (.astore 4, 2) := by decide +kernel
theorem dX8_branded_26 : decode cX8_branded 26 = .ok (.aload 4, 2) := by decide +kernel
theorem dX8_branded_28 : decode cX8_branded 28 = .ok (.ifnull 22, 3) := by decide +kernel
theorem dX8_branded_31 : decode cX8_branded 31 = .ok (.aload_n 0, 1) := by decide +kernel
theorem dX8_branded_32 : decode cX8_branded 32 = .ok (.getfield 62, 3) := by decide +kernel
theorem dX8_branded_35 : decode cX8_branded 35 = .ok (.aload 4, 2) := by decide +kernel
theorem dX8_branded_37 : decode cX8_branded 37 = .ok (.aload_n 2, 1) := by decide +kernel
theorem dX8_branded_38 : decode cX8_branded 38 = .ok (.aload_n 0, 1) := by decide +kernel
theorem dX8_branded_39 : decode cX8_branded 39 = .ok (.getfield 118, 3) := by decide +kernel
theorem dX8_branded_42 : decode cX8_branded 42 = .ok (.invokevirtual 167, 3) := by decide +kernel
theorem dX8_branded_45 : decode cX8_branded 45 = .ok (.ifCond .eq 5, 3) := by decide +kernel
theorem dX8_branded_48 : decode cX8_branded 48 = .ok (.iload_n 3, 1) := by decide +kernel
theorem dX8_branded_49 : decode cX8_branded 49 = .ok (.ireturn, 1) := by decide +kernel
theorem dX8_branded_50 : decode cX8_branded 50 = .ok (.iinc 3 1, 3) := by decide +kernel
theorem dX8_branded_53 : decode cX8_branded 53 = .ok (.goto (-39), 3) := by decide +kernel
theorem dX8_branded_56 : decode cX8_branded 56 = .ok (.iconst (-1), 1) := by decide +kernel
theorem dX8_branded_57 : decode cX8_branded 57 = .ok (.ireturn, 1) := by decide +kernel
theorem dX8_share_0 : decode cX8_share 0 = .ok (.aload_n 0, 1) := by decide +kernel
theorem dX8_share_1 : decode cX8_share 1 = .ok (.iload_n 1, 1) := by decide +kernel
theorem dX8_share_2 : decode cX8_share 2 = .ok (.invokevirtual 95, 3) := by decide +kernel
theorem dX8_share_5 : decode cX8_share 5 = .ok (.astore 4, 2) := by decide +kernel
theorem dX8_share_7 : decode cX8_share 7 = .ok (.aload 4, 2) := by decide +kernel
theorem dX8_share_9 : decode cX8_share 9 = .ok (.ifnull 20, 3) := by decide +kernel
theorem dX8_share_12 : decode cX8_share 12 = .ok (.iload_n 2, 1) := by decide +kernel
theorem dX8_share_13 : decode cX8_share 13 = .ok (.invokestatic 171, 3) := by decide +kernel
theorem dX8_share_16 : decode cX8_share 16 = .ok (.ifCond .eq 13, 3) := by decide +kernel
theorem dX8_share_19 : decode cX8_share 19 = .ok (.iload_n 3, 1) := by decide +kernel
theorem dX8_share_20 : decode cX8_share 20 = .ok (.iconst 0, 1) := by decide +kernel
theorem dX8_share_21 : decode cX8_share 21 = .ok (.bipush 100, 2) := by decide +kernel
theorem dX8_share_23 : decode cX8_share 23 = .ok (.invokestatic 74, 3) := by decide +kernel
theorem dX8_share_26 : decode cX8_share 26 = .ok (.ifCond .ne 5, 3) := by decide +kernel
theorem dX8_share_29 : decode cX8_share 29 = .ok (.iconst 0, 1) := by decide +kernel
theorem dX8_share_30 : decode cX8_share 30 = .ok (.ireturn, 1) := by decide +kernel
theorem dX8_share_31 : decode cX8_share 31 = .ok (.aload 4, 2) := by decide +kernel
theorem dX8_share_33 : decode cX8_share 33 = .ok (.getfield 174, 3) := by decide +kernel
theorem dX8_share_36 : decode cX8_share 36 = .ok (.iload_n 2, 1) := by decide +kernel
theorem dX8_share_37 : decode cX8_share 37 = .ok (.iload_n 3, 1) := by decide +kernel
theorem dX8_share_38 : decode cX8_share 38 = .ok (.iastore, 1) := by decide +kernel
theorem dX8_share_39 : decode cX8_share 39 = .ok (.iconst 1, 1) := by decide +kernel
theorem dX8_share_40 : decode cX8_share 40 = .ok (.ireturn, 1) := by decide +kernel
theorem dX8_settle_0 : decode cX8_settle 0 = .ok (.aload_n 0, 1) := by decide +kernel
theorem dX8_settle_1 : decode cX8_settle 1 = .ok (.iload_n 1, 1) := by decide +kernel
theorem dX8_settle_2 : decode cX8_settle 2 = .ok (.invokevirtual 95, 3) := by decide +kernel
theorem dX8_settle_5 : decode cX8_settle 5 = .ok (.astore_n 2, 1) := by decide +kernel
theorem dX8_settle_6 : decode cX8_settle 6 = .ok (.aload_n 2, 1) := by decide +kernel
theorem dX8_settle_7 : decode cX8_settle 7 = .ok (.ifnull 10, 3) := by decide +kernel
theorem dX8_settle_10 : decode cX8_settle 10 = .ok (.aload_n 2, 1) := by decide +kernel
theorem dX8_settle_11 : decode cX8_settle 11 = .ok (.getfield 177, 3) := by decide +kernel
theorem dX8_settle_14 : decode cX8_settle 14 = .ok (.ifCond .ne 5, 3) := by decide +kernel
theorem dX8_settle_17 : decode cX8_settle 17 = .ok (.iconst (-1), 1) := by decide +kernel
theorem dX8_settle_18 : decode cX8_settle 18 = .ok (.ireturn, 1) := by decide +kernel
theorem dX8_settle_19 : decode cX8_settle 19 = .ok (.aload_n 0, 1) := by decide +kernel
theorem dX8_settle_20 : decode cX8_settle 20 = .ok (.getfield 48, 3) := by decide +kernel
theorem dX8_settle_23 : decode cX8_settle 23 = .ok (.invokevirtual 180, 3) := by decide +kernel
theorem dX8_settle_26 : decode cX8_settle 26 = .ok (.iconst 0, 1) := by decide +kernel
theorem dX8_settle_27 : decode cX8_settle 27 = .ok (.istore_n 3, 1) := by decide +kernel
theorem dX8_settle_28 : decode cX8_settle 28 = .ok (.iload_n 3, 1) := by decide +kernel
theorem dX8_settle_29 : decode cX8_settle 29 = .ok (.bipush 8, 2) := by decide +kernel
theorem dX8_settle_31 : decode cX8_settle 31 = .ok (.if_icmp .ge 23, 3) := by decide +kernel
theorem dX8_settle_34 : decode cX8_settle 34 = .ok (.aload_n 0, 1) := by decide +kernel
theorem dX8_settle_35 : decode cX8_settle 35 = .ok (.getfield 48, 3) := by decide +kernel
theorem dX8_settle_38 : decode cX8_settle 38 = .ok (.iload_n 3, 1) := by decide +kernel
theorem dX8_settle_39 : decode cX8_settle 39 = .ok (.aload_n 2, 1) := by decide +kernel
theorem dX8_settle_40 : decode cX8_settle 40 = .ok (.getfield 174, 3) := by decide +kernel
theorem dX8_settle_43 : decode cX8_settle 43 = .ok (.iload_n 3, 1) := by decide +kernel
theorem dX8_settle_44 : decode cX8_settle 44 = .ok (.iaload, 1) := by decide +kernel
theorem dX8_settle_45 : decode cX8_settle 45 = .ok (.invokevirtual 183, 3) := by decide +kernel
theorem dX8_settle_48 : decode cX8_settle 48 = .ok (.iinc 3 1, 3) := by decide +kernel
theorem dX8_settle_51 : decode cX8_settle 51 = .ok (.goto (-23), 3) := by decide +kernel
theorem dX8_settle_54 : decode cX8_settle 54 = .ok (.aload_n 0, 1) := by decide +kernel
theorem dX8_settle_55 : decode cX8_settle 55 = .ok (.getfield 48, 3) := by decide +kernel
theorem dX8_settle_58 : decode cX8_settle 58 = .ok (.getfield 186, 3) := by decide +kernel
theorem dX8_settle_61 : decode cX8_settle 61 = .ok (.ifCond .ne 5, 3) := by decide +kernel
theorem dX8_settle_64 : decode cX8_settle 64 = .ok (.iconst (-1), 1) := by decide +kernel
theorem dX8_settle_65 : decode cX8_settle 65 = .ok (.ireturn, 1) := by decide +kernel
theorem dX8_settle_66 : decode cX8_settle 66 = .ok (.aload_n 2, 1) := by decide +kernel
theorem dX8_settle_67 : decode cX8_settle 67 = .ok (.getfield 177, 3) := by decide +kernel
theorem dX8_settle_70 : decode cX8_settle 70 = .ok (.istore_n 3, 1) := by decide +kernel
theorem dX8_settle_71 : decode cX8_settle 71 = .ok (.aload_n 0, 1) := by decide +kernel
theorem dX8_settle_72 : decode cX8_settle 72 = .ok (.getfield 48, 3) := by decide +kernel
theorem dX8_settle_75 : decode cX8_settle 75 = .ok (.iload_n 3, 1) := by decide +kernel
theorem dX8_settle_76 : decode cX8_settle 76 = .ok (.invokevirtual 189, 3) := by decide +kernel
theorem dX8_settle_79 : decode cX8_settle 79 = .ok (.iconst 0, 1) := by decide +kernel
theorem dX8_settle_80 : decode cX8_settle 80 = .ok (.istore 4, 2) := by decide +kernel
theorem dX8_settle_82 : decode cX8_settle 82 = .ok (.iload 4, 2) := by decide +kernel
theorem dX8_settle_84 : decode cX8_settle 84 = .ok (.bipush 8, 2) := by decide +kernel
theorem dX8_settle_86 : decode cX8_settle 86 = .ok (.if_icmp .ge 29, 3) := by decide +kernel
theorem dX8_settle_89 : decode cX8_settle 89 = .ok (.aload_n 2, 1) := by decide +kernel
theorem dX8_settle_90 : decode cX8_settle 90 = .ok (.getfield 192, 3) := by decide +kernel
theorem dX8_settle_93 : decode cX8_settle 93 = .ok (.iload 4, 2) := by decide +kernel
theorem dX8_settle_95 : decode cX8_settle 95 = .ok (.dup2, 1) := by decide +kernel
theorem dX8_settle_96 : decode cX8_settle 96 = .ok (.iaload, 1) := by decide +kernel
theorem dX8_settle_97 : decode cX8_settle 97 = .ok (.aload_n 0, 1) := by decide +kernel
theorem dX8_settle_98 : decode cX8_settle 98 = .ok (.getfield 48, 3) := by decide +kernel
theorem dX8_settle_101 : decode cX8_settle 101 = .ok (.getfield 195, 3) := by decide +kernel
theorem dX8_settle_104 : decode cX8_settle 104 = .ok (.iload 4, 2) := by decide +kernel
theorem dX8_settle_106 : decode cX8_settle 106 = .ok (.iaload, 1) := by decide +kernel
theorem dX8_settle_107 : decode cX8_settle 107 = .ok (.iadd, 1) := by decide +kernel
theorem dX8_settle_108 : decode cX8_settle 108 = .ok (.iastore, 1) := by decide +kernel
theorem dX8_settle_109 : decode cX8_settle 109 = .ok (.iinc 4 1, 3) := by decide +kernel
theorem dX8_settle_112 : decode cX8_settle 112 = .ok (.goto (-30), 3) := by decide +kernel
theorem dX8_settle_115 : decode cX8_settle 115 = .ok (.aload_n 2, 1) := by decide +kernel
theorem dX8_settle_116 : decode cX8_settle 116 = .ok (.iconst 0, 1) := by decide +kernel
theorem dX8_settle_117 : decode cX8_settle 117 = .ok (.putfield 177, 3) := by decide +kernel
theorem dX8_settle_120 : decode cX8_settle 120 = .ok (.iload_n 3, 1) := by decide +kernel
theorem dX8_settle_121 : decode cX8_settle 121 = .ok (.ireturn, 1) := by decide +kernel
theorem dX8_coins_0 : decode cX8_coins 0 = .ok (.aload_n 0, 1) := by decide +kernel
theorem dX8_coins_1 : decode cX8_coins 1 = .ok (.iload_n 1, 1) := by decide +kernel
theorem dX8_coins_2 : decode cX8_coins 2 = .ok (.invokevirtual 95, 3) := by decide +kernel
theorem dX8_coins_5 : decode cX8_coins 5 = .ok (.astore_n 3, 1) := by decide +kernel
theorem dX8_coins_6 : decode cX8_coins 6 = .ok (.aload_n 3, 1) := by decide +kernel
theorem dX8_coins_7 : decode cX8_coins 7 = .ok (.ifnull 10, 3) := by decide +kernel
theorem dX8_coins_10 : decode cX8_coins 10 = .ok (.iload_n 2, 1) := by decide +kernel
theorem dX8_coins_11 : decode cX8_coins 11 = .ok (.invokestatic 171, 3) := by decide +kernel
theorem dX8_coins_14 : decode cX8_coins 14 = .ok (.ifCond .ne 5, 3) := by decide +kernel
theorem dX8_coins_17 : decode cX8_coins 17 = .ok (.iconst 0, 1) := by decide +kernel
theorem dX8_coins_18 : decode cX8_coins 18 = .ok (.ireturn, 1) := by decide +kernel
theorem dX8_coins_19 : decode cX8_coins 19 = .ok (.aload_n 3, 1) := by decide +kernel
theorem dX8_coins_20 : decode cX8_coins 20 = .ok (.getfield 192, 3) := by decide +kernel
theorem dX8_coins_23 : decode cX8_coins 23 = .ok (.iload_n 2, 1) := by decide +kernel
theorem dX8_coins_24 : decode cX8_coins 24 = .ok (.iaload, 1) := by decide +kernel
theorem dX8_coins_25 : decode cX8_coins 25 = .ok (.ireturn, 1) := by decide +kernel
theorem dX8_cell_0 : decode cX8_cell 0 = .ok (.iload_n 1, 1) := by decide +kernel
theorem dX8_cell_1 : decode cX8_cell 1 = .ok (.invokestatic 70, 3) := by decide +kernel
theorem dX8_cell_4 : decode cX8_cell 4 = .ok (.ifCond .ne 5, 3) := by decide +kernel
theorem dX8_cell_7 : decode cX8_cell 7 = .ok (.iconst (-1), 1) := by decide +kernel
theorem dX8_cell_8 : decode cX8_cell 8 = .ok (.ireturn, 1) := by decide +kernel
theorem dX8_cell_9 : decode cX8_cell 9 = .ok (.iload_n 2, 1) := by decide +kernel
theorem dX8_cell_10 : decode cX8_cell 10 = .ok (.lookupswitch 54 #[(0, 26), (1, 36)], 26) := by decide +kernel
theorem dX8_cell_36 : decode cX8_cell 36 = .ok (.aload_n 0, 1) := by decide +kernel
theorem dX8_cell_37 : decode cX8_cell 37 = .ok (.getfield 12, 3) := by decide +kernel
theorem dX8_cell_40 : decode cX8_cell 40 = .ok (.getfield 78, 3) := by decide +kernel
theorem dX8_cell_43 : decode cX8_cell 43 = .ok (.iload_n 1, 1) := by decide +kernel
theorem dX8_cell_44 : decode cX8_cell 44 = .ok (.iaload, 1) := by decide +kernel
theorem dX8_cell_45 : decode cX8_cell 45 = .ok (.ireturn, 1) := by decide +kernel
theorem dX8_cell_46 : decode cX8_cell 46 = .ok (.aload_n 0, 1) := by decide +kernel
theorem dX8_cell_47 : decode cX8_cell 47 = .ok (.getfield 12, 3) := by decide +kernel
theorem dX8_cell_50 : decode cX8_cell 50 = .ok (.getfield 82, 3) := by decide +kernel
theorem dX8_cell_53 : decode cX8_cell 53 = .ok (.iload_n 1, 1) := by decide +kernel
theorem dX8_cell_54 : decode cX8_cell 54 = .ok (.baload, 1) := by decide +kernel
theorem dX8_cell_55 : decode cX8_cell 55 = .ok (.ifCond .eq 7, 3) := by decide +kernel
theorem dX8_cell_58 : decode cX8_cell 58 = .ok (.iconst 1, 1) := by decide +kernel
theorem dX8_cell_59 : decode cX8_cell 59 = .ok (.goto 4, 3) := by decide +kernel
theorem dX8_cell_62 : decode cX8_cell 62 = .ok (.iconst 0, 1) := by decide +kernel
theorem dX8_cell_63 : decode cX8_cell 63 = .ok (.ireturn, 1) := by decide +kernel
theorem dX8_cell_64 : decode cX8_cell 64 = .ok (.iconst (-1), 1) := by decide +kernel
theorem dX8_cell_65 : decode cX8_cell 65 = .ok (.ireturn, 1) := by decide +kernel
theorem dX8_told_0 : decode cX8_told 0 = .ok (.aload_n 0, 1) := by decide +kernel
theorem dX8_told_1 : decode cX8_told 1 = .ok (.iload_n 1, 1) := by decide +kernel
theorem dX8_told_2 : decode cX8_told 2 = .ok (.invokevirtual 95, 3) := by decide +kernel
theorem dX8_told_5 : decode cX8_told 5 = .ok (.astore_n 3, 1) := by decide +kernel
theorem dX8_told_6 : decode cX8_told 6 = .ok (.aload_n 3, 1) := by decide +kernel
theorem dX8_told_7 : decode cX8_told 7 = .ok (.ifnonnull 5, 3) := by decide +kernel
theorem dX8_told_10 : decode cX8_told 10 = .ok (.iconst (-1), 1) := by decide +kernel
theorem dX8_told_11 : decode cX8_told 11 = .ok (.ireturn, 1) := by decide +kernel
theorem dX8_told_12 : decode cX8_told 12 = .ok (.iload_n 2, 1) := by decide +kernel
theorem dX8_told_13 : decode cX8_told 13 = .ok (.tableswitch 69 0 5 #[39, 44, 49, 54, 59, 64], 39) := by decide +kernel
theorem dX8_told_52 : decode cX8_told 52 = .ok (.aload_n 3, 1) := by decide +kernel
theorem dX8_told_53 : decode cX8_told 53 = .ok (.getfield 102, 3) := by decide +kernel
theorem dX8_told_56 : decode cX8_told 56 = .ok (.ireturn, 1) := by decide +kernel
theorem dX8_told_57 : decode cX8_told 57 = .ok (.aload_n 3, 1) := by decide +kernel
theorem dX8_told_58 : decode cX8_told 58 = .ok (.getfield 99, 3) := by decide +kernel
theorem dX8_told_61 : decode cX8_told 61 = .ok (.ireturn, 1) := by decide +kernel
theorem dX8_told_62 : decode cX8_told 62 = .ok (.aload_n 3, 1) := by decide +kernel
theorem dX8_told_63 : decode cX8_told 63 = .ok (.getfield 198, 3) := by decide +kernel
theorem dX8_told_66 : decode cX8_told 66 = .ok (.ireturn, 1) := by decide +kernel
theorem dX8_told_67 : decode cX8_told 67 = .ok (.aload_n 3, 1) := by decide +kernel
theorem dX8_told_68 : decode cX8_told 68 = .ok (.getfield 177, 3) := by decide +kernel
theorem dX8_told_71 : decode cX8_told 71 = .ok (.ireturn, 1) := by decide +kernel
theorem dX8_told_72 : decode cX8_told 72 = .ok (.aload_n 3, 1) := by decide +kernel
theorem dX8_told_73 : decode cX8_told 73 = .ok (.getfield 201, 3) := by decide +kernel
theorem dX8_told_76 : decode cX8_told 76 = .ok (.ireturn, 1) := by decide +kernel
theorem dX8_told_77 : decode cX8_told 77 = .ok (.aload_n 3, 1) := by decide +kernel
theorem dX8_told_78 : decode cX8_told 78 = .ok (.getfield 204, 3) := by decide +kernel
theorem dX8_told_81 : decode cX8_told 81 = .ok (.ireturn, 1) := by decide +kernel
theorem dX8_told_82 : decode cX8_told 82 = .ok (.iconst (-1), 1) := by decide +kernel
theorem dX8_told_83 : decode cX8_told 83 = .ok (.ireturn, 1) := by decide +kernel
theorem dX8_lot_0 : decode cX8_lot 0 = .ok (.aload_n 0, 1) := by decide +kernel
theorem dX8_lot_1 : decode cX8_lot 1 = .ok (.iload_n 1, 1) := by decide +kernel
theorem dX8_lot_2 : decode cX8_lot 2 = .ok (.invokevirtual 163, 3) := by decide +kernel
theorem dX8_lot_5 : decode cX8_lot 5 = .ok (.astore_n 3, 1) := by decide +kernel
theorem dX8_lot_6 : decode cX8_lot 6 = .ok (.aload_n 3, 1) := by decide +kernel
theorem dX8_lot_7 : decode cX8_lot 7 = .ok (.ifnonnull 5, 3) := by decide +kernel
theorem dX8_lot_10 : decode cX8_lot 10 = .ok (.iconst (-1), 1) := by decide +kernel
theorem dX8_lot_11 : decode cX8_lot 11 = .ok (.ireturn, 1) := by decide +kernel
theorem dX8_lot_12 : decode cX8_lot 12 = .ok (.iload_n 2, 1) := by decide +kernel
theorem dX8_lot_13 : decode cX8_lot 13 = .ok (.tableswitch 114 0 10 #[59, 64, 69, 74, 79, 84, 89, 94, 99, 104, 109], 59) := by decide +kernel
theorem dX8_lot_72 : decode cX8_lot 72 = .ok (.aload_n 3, 1) := by decide +kernel
theorem dX8_lot_73 : decode cX8_lot 73 = .ok (.getfield 207, 3) := by decide +kernel
theorem dX8_lot_76 : decode cX8_lot 76 = .ok (.ireturn, 1) := by decide +kernel
theorem dX8_lot_77 : decode cX8_lot 77 = .ok (.aload_n 3, 1) := by decide +kernel
theorem dX8_lot_78 : decode cX8_lot 78 = .ok (.getfield 210, 3) := by decide +kernel
theorem dX8_lot_81 : decode cX8_lot 81 = .ok (.ireturn, 1) := by decide +kernel
theorem dX8_lot_82 : decode cX8_lot 82 = .ok (.aload_n 3, 1) := by decide +kernel
theorem dX8_lot_83 : decode cX8_lot 83 = .ok (.getfield 213, 3) := by decide +kernel
theorem dX8_lot_86 : decode cX8_lot 86 = .ok (.ireturn, 1) := by decide +kernel
theorem dX8_lot_87 : decode cX8_lot 87 = .ok (.aload_n 3, 1) := by decide +kernel
theorem dX8_lot_88 : decode cX8_lot 88 = .ok (.getfield 214, 3) := by decide +kernel
theorem dX8_lot_91 : decode cX8_lot 91 = .ok (.ireturn, 1) := by decide +kernel
theorem dX8_lot_92 : decode cX8_lot 92 = .ok (.aload_n 3, 1) := by decide +kernel
theorem dX8_lot_93 : decode cX8_lot 93 = .ok (.getfield 217, 3) := by decide +kernel
theorem dX8_lot_96 : decode cX8_lot 96 = .ok (.ireturn, 1) := by decide +kernel
theorem dX8_lot_97 : decode cX8_lot 97 = .ok (.aload_n 3, 1) := by decide +kernel
theorem dX8_lot_98 : decode cX8_lot 98 = .ok (.getfield 219, 3) := by decide +kernel
theorem dX8_lot_101 : decode cX8_lot 101 = .ok (.ireturn, 1) := by decide +kernel
theorem dX8_lot_102 : decode cX8_lot 102 = .ok (.aload_n 3, 1) := by decide +kernel
theorem dX8_lot_103 : decode cX8_lot 103 = .ok (.getfield 222, 3) := by decide +kernel
theorem dX8_lot_106 : decode cX8_lot 106 = .ok (.ireturn, 1) := by decide +kernel
theorem dX8_lot_107 : decode cX8_lot 107 = .ok (.aload_n 3, 1) := by decide +kernel
theorem dX8_lot_108 : decode cX8_lot 108 = .ok (.getfield 225, 3) := by decide +kernel
theorem dX8_lot_111 : decode cX8_lot 111 = .ok (.ireturn, 1) := by decide +kernel
theorem dX8_lot_112 : decode cX8_lot 112 = .ok (.aload_n 3, 1) := by decide +kernel
theorem dX8_lot_113 : decode cX8_lot 113 = .ok (.getfield 228, 3) := by decide +kernel
theorem dX8_lot_116 : decode cX8_lot 116 = .ok (.ireturn, 1) := by decide +kernel
theorem dX8_lot_117 : decode cX8_lot 117 = .ok (.aload_n 3, 1) := by decide +kernel
theorem dX8_lot_118 : decode cX8_lot 118 = .ok (.getfield 231, 3) := by decide +kernel
theorem dX8_lot_121 : decode cX8_lot 121 = .ok (.ireturn, 1) := by decide +kernel
theorem dX8_lot_122 : decode cX8_lot 122 = .ok (.aload_n 3, 1) := by decide +kernel
theorem dX8_lot_123 : decode cX8_lot 123 = .ok (.getfield 234, 3) := by decide +kernel
theorem dX8_lot_126 : decode cX8_lot 126 = .ok (.ireturn, 1) := by decide +kernel
theorem dX8_lot_127 : decode cX8_lot 127 = .ok (.iconst (-1), 1) := by decide +kernel
theorem dX8_lot_128 : decode cX8_lot 128 = .ok (.ireturn, 1) := by decide +kernel
theorem dX8_count_0 : decode cX8_count 0 = .ok (.iload_n 1, 1) := by decide +kernel
theorem dX8_count_1 : decode cX8_count 1 = .ok (.tableswitch 132 0 11 #[63, 68, 73, 78, 83, 91, 96, 101, 106, 114, 119, 124], 63) := by decide +kernel
theorem dX8_count_64 : decode cX8_count 64 = .ok (.aload_n 0, 1) := by decide +kernel
theorem dX8_count_65 : decode cX8_count 65 = .ok (.getfield 118, 3) := by decide +kernel
theorem dX8_count_68 : decode cX8_count 68 = .ok (.ireturn, 1) := by decide +kernel
theorem dX8_count_69 : decode cX8_count 69 = .ok (.aload_n 0, 1) := by decide +kernel
theorem dX8_count_70 : decode cX8_count 70 = .ok (.getfield 89, 3) := by decide +kernel
theorem dX8_count_73 : decode cX8_count 73 = .ok (.ireturn, 1) := by decide +kernel
theorem dX8_count_74 : decode cX8_count 74 = .ok (.aload_n 0, 1) := by decide +kernel
theorem dX8_count_75 : decode cX8_count 75 = .ok (.getfield 105, 3) := by decide +kernel
theorem dX8_count_78 : decode cX8_count 78 = .ok (.ireturn, 1) := by decide +kernel
theorem dX8_count_79 : decode cX8_count 79 = .ok (.aload_n 0, 1) := by decide +kernel
theorem dX8_count_80 : decode cX8_count 80 = .ok (.getfield 121, 3) := by decide +kernel
theorem dX8_count_83 : decode cX8_count 83 = .ok (.ireturn, 1) := by decide +kernel
theorem dX8_count_84 : decode cX8_count 84 = .ok (.aload_n 0, 1) := by decide +kernel
theorem dX8_count_85 : decode cX8_count 85 = .ok (.getfield 12, 3) := by decide +kernel
theorem dX8_count_88 : decode cX8_count 88 = .ok (.invokevirtual 237, 3) := by decide +kernel
theorem dX8_count_91 : decode cX8_count 91 = .ok (.ireturn, 1) := by decide +kernel
theorem dX8_count_92 : decode cX8_count 92 = .ok (.aload_n 0, 1) := by decide +kernel
theorem dX8_count_93 : decode cX8_count 93 = .ok (.getfield 241, 3) := by decide +kernel
theorem dX8_count_96 : decode cX8_count 96 = .ok (.ireturn, 1) := by decide +kernel
theorem dX8_count_97 : decode cX8_count 97 = .ok (.aload_n 0, 1) := by decide +kernel
theorem dX8_count_98 : decode cX8_count 98 = .ok (.getfield 242, 3) := by decide +kernel
theorem dX8_count_101 : decode cX8_count 101 = .ok (.ireturn, 1) := by decide +kernel
theorem dX8_count_102 : decode cX8_count 102 = .ok (.aload_n 0, 1) := by decide +kernel
theorem dX8_count_103 : decode cX8_count 103 = .ok (.getfield 245, 3) := by decide +kernel
theorem dX8_count_106 : decode cX8_count 106 = .ok (.ireturn, 1) := by decide +kernel
theorem dX8_count_107 : decode cX8_count 107 = .ok (.aload_n 0, 1) := by decide +kernel
theorem dX8_count_108 : decode cX8_count 108 = .ok (.getfield 12, 3) := by decide +kernel
theorem dX8_count_111 : decode cX8_count 111 = .ok (.getfield 248, 3) := by decide +kernel
theorem dX8_count_114 : decode cX8_count 114 = .ok (.ireturn, 1) := by decide +kernel
theorem dX8_count_115 : decode cX8_count 115 = .ok (.aload_n 0, 1) := by decide +kernel
theorem dX8_count_116 : decode cX8_count 116 = .ok (.getfield 251, 3) := by decide +kernel
theorem dX8_count_119 : decode cX8_count 119 = .ok (.ireturn, 1) := by decide +kernel
theorem dX8_count_120 : decode cX8_count 120 = .ok (.aload_n 0, 1) := by decide +kernel
theorem dX8_count_121 : decode cX8_count 121 = .ok (.invokevirtual 254, 3) := by decide +kernel
theorem dX8_count_124 : decode cX8_count 124 = .ok (.ireturn, 1) := by decide +kernel
theorem dX8_count_125 : decode cX8_count 125 = .ok (.aload_n 0, 1) := by decide +kernel
theorem dX8_count_126 : decode cX8_count 126 = .ok (.getfield 37, 3) := by decide +kernel
theorem dX8_count_129 : decode cX8_count 129 = .ok (.getfield 145, 3) := by decide +kernel
theorem dX8_count_132 : decode cX8_count 132 = .ok (.ireturn, 1) := by decide +kernel
theorem dX8_count_133 : decode cX8_count 133 = .ok (.iconst (-1), 1) := by decide +kernel
theorem dX8_count_134 : decode cX8_count 134 = .ok (.ireturn, 1) := by decide +kernel
theorem dX8_isWithin_0 : decode cX8_isWithin 0 = .ok (.iload_n 0, 1) := by decide +kernel
theorem dX8_isWithin_1 : decode cX8_isWithin 1 = .ok (.iload_n 1, 1) := by decide +kernel
theorem dX8_isWithin_2 : decode cX8_isWithin 2 = .ok (.if_icmp .lt 12, 3) := by decide +kernel
theorem dX8_isWithin_5 : decode cX8_isWithin 5 = .ok (.iload_n 0, 1) := by decide +kernel
theorem dX8_isWithin_6 : decode cX8_isWithin 6 = .ok (.iload_n 2, 1) := by decide +kernel
theorem dX8_isWithin_7 : decode cX8_isWithin 7 = .ok (.if_icmp .gt 7, 3) := by decide +kernel
theorem dX8_isWithin_10 : decode cX8_isWithin 10 = .ok (.iconst 1, 1) := by decide +kernel
theorem dX8_isWithin_11 : decode cX8_isWithin 11 = .ok (.goto 4, 3) := by decide +kernel
theorem dX8_isWithin_14 : decode cX8_isWithin 14 = .ok (.iconst 0, 1) := by decide +kernel
theorem dX8_isWithin_15 : decode cX8_isWithin 15 = .ok (.ireturn, 1) := by decide +kernel
theorem dX8_boatAt_0 : decode cX8_boatAt 0 = .ok (.iload_n 1, 1) := by decide +kernel
theorem dX8_boatAt_1 : decode cX8_boatAt 1 = .ok (.iconst 0, 1) := by decide +kernel
theorem dX8_boatAt_2 : decode cX8_boatAt 2 = .ok (.bipush 11, 2) := by decide +kernel
theorem dX8_boatAt_4 : decode cX8_boatAt 4 = .ok (.invokestatic 74, 3) := by decide +kernel
theorem dX8_boatAt_7 : decode cX8_boatAt 7 = .ok (.ifCond .eq 12, 3) := by decide +kernel
theorem dX8_boatAt_10 : decode cX8_boatAt 10 = .ok (.aload_n 0, 1) := by decide +kernel
theorem dX8_boatAt_11 : decode cX8_boatAt 11 = .ok (.getfield 18, 3) := by decide +kernel
theorem dX8_boatAt_14 : decode cX8_boatAt 14 = .ok (.iload_n 1, 1) := by decide +kernel
theorem dX8_boatAt_15 : decode cX8_boatAt 15 = .ok (.aaload, 1) := by decide +kernel
theorem dX8_boatAt_16 : decode cX8_boatAt 16 = .ok (.goto 4, 3) := by decide +kernel
theorem dX8_boatAt_19 : decode cX8_boatAt 19 = .ok (.aconst_null, 1) := by decide +kernel
theorem dX8_boatAt_20 : decode cX8_boatAt 20 = .ok (.areturn, 1) := by decide +kernel
theorem dX8_yardAt_0 : decode cX8_yardAt 0 = .ok (.iload_n 1, 1) := by decide +kernel
theorem dX8_yardAt_1 : decode cX8_yardAt 1 = .ok (.iconst 0, 1) := by decide +kernel
theorem dX8_yardAt_2 : decode cX8_yardAt 2 = .ok (.iconst 3, 1) := by decide +kernel
theorem dX8_yardAt_3 : decode cX8_yardAt 3 = .ok (.invokestatic 74, 3) := by decide +kernel
theorem dX8_yardAt_6 : decode cX8_yardAt 6 = .ok (.ifCond .eq 12, 3) := by decide +kernel
theorem dX8_yardAt_9 : decode cX8_yardAt 9 = .ok (.aload_n 0, 1) := by decide +kernel
theorem dX8_yardAt_10 : decode cX8_yardAt 10 = .ok (.getfield 24, 3) := by decide +kernel
theorem dX8_yardAt_13 : decode cX8_yardAt 13 = .ok (.iload_n 1, 1) := by decide +kernel
theorem dX8_yardAt_14 : decode cX8_yardAt 14 = .ok (.aaload, 1) := by decide +kernel
theorem dX8_yardAt_15 : decode cX8_yardAt 15 = .ok (.goto 4, 3) := by decide +kernel
theorem dX8_yardAt_18 : decode cX8_yardAt 18 = .ok (.aconst_null, 1) := by decide +kernel
theorem dX8_yardAt_19 : decode cX8_yardAt 19 = .ok (.areturn, 1) := by decide +kernel
theorem dX8_lotAt_0 : decode cX8_lotAt 0 = .ok (.iload_n 1, 1) := by decide +kernel
theorem dX8_lotAt_1 : decode cX8_lotAt 1 = .ok (.iconst 0, 1) := by decide +kernel
theorem dX8_lotAt_2 : decode cX8_lotAt 2 = .ok (.sipush 399, 3) := by decide +kernel
theorem dX8_lotAt_5 : decode cX8_lotAt 5 = .ok (.invokestatic 74, 3) := by decide +kernel
theorem dX8_lotAt_8 : decode cX8_lotAt 8 = .ok (.ifCond .eq 12, 3) := by decide +kernel
theorem dX8_lotAt_11 : decode cX8_lotAt 11 = .ok (.aload_n 0, 1) := by decide +kernel
theorem dX8_lotAt_12 : decode cX8_lotAt 12 = .ok (.getfield 30, 3) := by decide +kernel
theorem dX8_lotAt_15 : decode cX8_lotAt 15 = .ok (.iload_n 1, 1) := by decide +kernel
theorem dX8_lotAt_16 : decode cX8_lotAt 16 = .ok (.aaload, 1) := by decide +kernel
theorem dX8_lotAt_17 : decode cX8_lotAt 17 = .ok (.goto 4, 3) := by decide +kernel
theorem dX8_lotAt_20 : decode cX8_lotAt 20 = .ok (.aconst_null, 1) := by decide +kernel
theorem dX8_lotAt_21 : decode cX8_lotAt 21 = .ok (.areturn, 1) := by decide +kernel
theorem dX8_textAt_0 : decode cX8_textAt 0 = .ok (.iload_n 1, 1) := by decide +kernel
theorem dX8_textAt_1 : decode cX8_textAt 1 = .ok (.iconst 0, 1) := by decide +kernel
theorem dX8_textAt_2 : decode cX8_textAt 2 = .ok (.iconst 3, 1) := by decide +kernel
theorem dX8_textAt_3 : decode cX8_textAt 3 = .ok (.invokestatic 74, 3) := by decide +kernel
theorem dX8_textAt_6 : decode cX8_textAt 6 = .ok (.ifCond .eq 12, 3) := by decide +kernel
theorem dX8_textAt_9 : decode cX8_textAt 9 = .ok (.aload_n 0, 1) := by decide +kernel
theorem dX8_textAt_10 : decode cX8_textAt 10 = .ok (.getfield 41, 3) := by decide +kernel
theorem dX8_textAt_13 : decode cX8_textAt 13 = .ok (.iload_n 1, 1) := by decide +kernel
theorem dX8_textAt_14 : decode cX8_textAt 14 = .ok (.aaload, 1) := by decide +kernel
theorem dX8_textAt_15 : decode cX8_textAt 15 = .ok (.goto 4, 3) := by decide +kernel
theorem dX8_textAt_18 : decode cX8_textAt 18 = .ok (.aconst_null, 1) := by decide +kernel
theorem dX8_textAt_19 : decode cX8_textAt 19 = .ok (.areturn, 1) := by decide +kernel
theorem dX8_owedInAll_0 : decode cX8_owedInAll 0 = .ok (.iconst 0, 1) := by decide +kernel
theorem dX8_owedInAll_1 : decode cX8_owedInAll 1 = .ok (.istore_n 1, 1) := by decide +kernel
theorem dX8_owedInAll_2 : decode cX8_owedInAll 2 = .ok (.iconst 0, 1) := by decide +kernel
theorem dX8_owedInAll_3 : decode cX8_owedInAll 3 = .ok (.istore_n 2, 1) := by decide +kernel
theorem dX8_owedInAll_4 : decode cX8_owedInAll 4 = .ok (.iload_n 2, 1) := by decide +kernel
theorem dX8_owedInAll_5 : decode cX8_owedInAll 5 = .ok (.aload_n 0, 1) := by decide +kernel
theorem dX8_owedInAll_6 : decode cX8_owedInAll 6 = .ok (.getfield 89, 3) := by decide +kernel
theorem dX8_owedInAll_9 : decode cX8_owedInAll 9 = .ok (.if_icmp .ge 26, 3) := by decide +kernel
theorem dX8_owedInAll_12 : decode cX8_owedInAll 12 = .ok (.aload_n 0, 1) := by decide +kernel
theorem dX8_owedInAll_13 : decode cX8_owedInAll 13 = .ok (.iload_n 2, 1) := by decide +kernel
theorem dX8_owedInAll_14 : decode cX8_owedInAll 14 = .ok (.invokevirtual 95, 3) := by decide +kernel
theorem dX8_owedInAll_17 : decode cX8_owedInAll 17 = .ok (.astore_n 3, 1) := by decide +kernel
theorem dX8_owedInAll_18 : decode cX8_owedInAll 18 = .ok (.aload_n 3, 1) := by decide +kernel
theorem dX8_owedInAll_19 : decode cX8_owedInAll 19 = .ok (.ifnull 10, 3) := by decide +kernel
theorem dX8_owedInAll_22 : decode cX8_owedInAll 22 = .ok (.iload_n 1, 1) := by decide +kernel
theorem dX8_owedInAll_23 : decode cX8_owedInAll 23 = .ok (.aload_n 3, 1) := by decide +kernel
theorem dX8_owedInAll_24 : decode cX8_owedInAll 24 = .ok (.getfield 177, 3) := by decide +kernel
theorem dX8_owedInAll_27 : decode cX8_owedInAll 27 = .ok (.iadd, 1) := by decide +kernel
theorem dX8_owedInAll_28 : decode cX8_owedInAll 28 = .ok (.istore_n 1, 1) := by decide +kernel
theorem dX8_owedInAll_29 : decode cX8_owedInAll 29 = .ok (.iinc 2 1, 3) := by decide +kernel
theorem dX8_owedInAll_32 : decode cX8_owedInAll 32 = .ok (.goto (-28), 3) := by decide +kernel
theorem dX8_owedInAll_35 : decode cX8_owedInAll 35 = .ok (.iload_n 1, 1) := by decide +kernel
theorem dX8_owedInAll_36 : decode cX8_owedInAll 36 = .ok (.ireturn, 1) := by decide +kernel
theorem dX8_beginNight_0 : decode cX8_beginNight 0 = .ok (.iconst 0, 1) := by decide +kernel
theorem dX8_beginNight_1 : decode cX8_beginNight 1 = .ok (.istore_n 2, 1) := by decide +kernel
theorem dX8_beginNight_2 : decode cX8_beginNight 2 = .ok (.iload_n 2, 1) := by decide +kernel
theorem dX8_beginNight_3 : decode cX8_beginNight 3 = .ok (.aload_n 0, 1) := by decide +kernel
theorem dX8_beginNight_4 : decode cX8_beginNight 4 = .ok (.getfield 89, 3) := by decide +kernel
theorem dX8_beginNight_7 : decode cX8_beginNight 7 = .ok (.if_icmp .ge 40, 3) := by decide +kernel
theorem dX8_beginNight_10 : decode cX8_beginNight 10 = .ok (.aload_n 0, 1) := by decide +kernel
theorem dX8_beginNight_11 : decode cX8_beginNight 11 = .ok (.iload_n 2, 1) := by decide +kernel
theorem dX8_beginNight_12 : decode cX8_beginNight 12 = .ok (.invokevirtual 95, 3) := by decide +kernel
theorem dX8_beginNight_15 : decode cX8_beginNight 15 = .ok (.astore_n 3, 1) := by decide +kernel
theorem dX8_beginNight_16 : decode cX8_beginNight 16 = .ok (.aload_n 3, 1) := by decide +kernel
theorem dX8_beginNight_17 : decode cX8_beginNight 17 = .ok (.ifnull 24, 3) := by decide +kernel
theorem dX8_beginNight_20 : decode cX8_beginNight 20 = .ok (.aload_n 3, 1) := by decide +kernel
theorem dX8_beginNight_21 : decode cX8_beginNight 21 = .ok (.iconst 0, 1) := by decide +kernel
theorem dX8_beginNight_22 : decode cX8_beginNight 22 = .ok (.putfield 204, 3) := by decide +kernel
theorem dX8_beginNight_25 : decode cX8_beginNight 25 = .ok (.aload_n 0, 1) := by decide +kernel
theorem dX8_beginNight_26 : decode cX8_beginNight 26 = .ok (.aload_n 3, 1) := by decide +kernel
theorem dX8_beginNight_27 : decode cX8_beginNight 27 = .ok (.getfield 99, 3) := by decide +kernel
theorem dX8_beginNight_30 : decode cX8_beginNight 30 = .ok (.iload_n 1, 1) := by decide +kernel
theorem dX8_beginNight_31 : decode cX8_beginNight 31 = .ok (.invokevirtual 257, 3) := by decide +kernel
theorem dX8_beginNight_34 : decode cX8_beginNight 34 = .ok (.ifCond .eq 7, 3) := by decide +kernel
theorem dX8_beginNight_37 : decode cX8_beginNight 37 = .ok (.aload_n 3, 1) := by decide +kernel
theorem dX8_beginNight_38 : decode cX8_beginNight 38 = .ok (.invokevirtual 261, 3) := by decide +kernel
theorem dX8_beginNight_41 : decode cX8_beginNight 41 = .ok (.iinc 2 1, 3) := by decide +kernel
theorem dX8_beginNight_44 : decode cX8_beginNight 44 = .ok (.goto (-42), 3) := by decide +kernel
theorem dX8_beginNight_47 : decode cX8_beginNight 47 = .ok (.iconst 0, 1) := by decide +kernel
theorem dX8_beginNight_48 : decode cX8_beginNight 48 = .ok (.istore_n 2, 1) := by decide +kernel
theorem dX8_beginNight_49 : decode cX8_beginNight 49 = .ok (.iload_n 2, 1) := by decide +kernel
theorem dX8_beginNight_50 : decode cX8_beginNight 50 = .ok (.aload_n 0, 1) := by decide +kernel
theorem dX8_beginNight_51 : decode cX8_beginNight 51 = .ok (.getfield 105, 3) := by decide +kernel
theorem dX8_beginNight_54 : decode cX8_beginNight 54 = .ok (.if_icmp .ge 23, 3) := by decide +kernel
theorem dX8_beginNight_57 : decode cX8_beginNight 57 = .ok (.aload_n 0, 1) := by decide +kernel
theorem dX8_beginNight_58 : decode cX8_beginNight 58 = .ok (.iload_n 2, 1) := by decide +kernel
theorem dX8_beginNight_59 : decode cX8_beginNight 59 = .ok (.invokevirtual 111, 3) := by decide +kernel
theorem dX8_beginNight_62 : decode cX8_beginNight 62 = .ok (.astore_n 3, 1) := by decide +kernel
theorem dX8_beginNight_63 : decode cX8_beginNight 63 = .ok (.aload_n 3, 1) := by decide +kernel
theorem dX8_beginNight_64 : decode cX8_beginNight 64 = .ok (.ifnull 7, 3) := by decide +kernel
theorem dX8_beginNight_67 : decode cX8_beginNight 67 = .ok (.aload_n 3, 1) := by decide +kernel
theorem dX8_beginNight_68 : decode cX8_beginNight 68 = .ok (.invokevirtual 264, 3) := by decide +kernel
theorem dX8_beginNight_71 : decode cX8_beginNight 71 = .ok (.iinc 2 1, 3) := by decide +kernel
theorem dX8_beginNight_74 : decode cX8_beginNight 74 = .ok (.goto (-25), 3) := by decide +kernel
theorem dX8_beginNight_77 : decode cX8_beginNight 77 = .ok (.return_, 1) := by decide +kernel
theorem dX8_isStormy_0 : decode cX8_isStormy 0 = .ok (.iload_n 2, 1) := by decide +kernel
theorem dX8_isStormy_1 : decode cX8_isStormy 1 = .ok (.ifCond .eq 26, 3) := by decide +kernel
theorem dX8_isStormy_4 : decode cX8_isStormy 4 = .ok (.iload_n 1, 1) := by decide +kernel
theorem dX8_isStormy_5 : decode cX8_isStormy 5 = .ok (.invokestatic 70, 3) := by decide +kernel
theorem dX8_isStormy_8 : decode cX8_isStormy 8 = .ok (.ifCond .eq 19, 3) := by decide +kernel
theorem dX8_isStormy_11 : decode cX8_isStormy 11 = .ok (.aload_n 0, 1) := by decide +kernel
theorem dX8_isStormy_12 : decode cX8_isStormy 12 = .ok (.getfield 12, 3) := by decide +kernel
theorem dX8_isStormy_15 : decode cX8_isStormy 15 = .ok (.getfield 82, 3) := by decide +kernel
theorem dX8_isStormy_18 : decode cX8_isStormy 18 = .ok (.iload_n 1, 1) := by decide +kernel
theorem dX8_isStormy_19 : decode cX8_isStormy 19 = .ok (.baload, 1) := by decide +kernel
theorem dX8_isStormy_20 : decode cX8_isStormy 20 = .ok (.ifCond .eq 7, 3) := by decide +kernel
theorem dX8_isStormy_23 : decode cX8_isStormy 23 = .ok (.iconst 1, 1) := by decide +kernel
theorem dX8_isStormy_24 : decode cX8_isStormy 24 = .ok (.goto 4, 3) := by decide +kernel
theorem dX8_isStormy_27 : decode cX8_isStormy 27 = .ok (.iconst 0, 1) := by decide +kernel
theorem dX8_isStormy_28 : decode cX8_isStormy 28 = .ok (.ireturn, 1) := by decide +kernel
theorem dX8_haulEverywhere_0 : decode cX8_haulEverywhere 0 = .ok (.iconst 0, 1) := by decide +kernel
theorem dX8_haulEverywhere_1 : decode cX8_haulEverywhere 1 = .ok (.istore_n 2, 1) := by decide +kernel
theorem dX8_haulEverywhere_2 : decode cX8_haulEverywhere 2 = .ok (.iconst 0, 1) := by decide +kernel
theorem dX8_haulEverywhere_3 : decode cX8_haulEverywhere 3 = .ok (.istore_n 3, 1) := by decide +kernel
theorem dX8_haulEverywhere_4 : decode cX8_haulEverywhere 4 = .ok (.iload_n 3, 1) := by decide +kernel
theorem dX8_haulEverywhere_5 : decode cX8_haulEverywhere 5 = .ok (.bipush 36, 2) := by decide +kernel
theorem dX8_haulEverywhere_7 : decode cX8_haulEverywhere 7 = .ok (.if_icmp .ge 26, 3) := by decide +kernel
theorem dX8_haulEverywhere_10 : decode cX8_haulEverywhere 10 = .ok (.aload_n 0, 1) := by decide +kernel
theorem dX8_haulEverywhere_11 : decode cX8_haulEverywhere 11 = .ok (.iload_n 3, 1) := by decide +kernel
theorem dX8_haulEverywhere_12 : decode cX8_haulEverywhere 12 = .ok (.iload_n 1, 1) := by decide +kernel
theorem dX8_haulEverywhere_13 : decode cX8_haulEverywhere 13 = .ok (.invokevirtual 257, 3) := by decide +kernel
theorem dX8_haulEverywhere_16 : decode cX8_haulEverywhere 16 = .ok (.ifCond .ne 11, 3) := by decide +kernel
theorem dX8_haulEverywhere_19 : decode cX8_haulEverywhere 19 = .ok (.iload_n 2, 1) := by decide +kernel
theorem dX8_haulEverywhere_20 : decode cX8_haulEverywhere 20 = .ok (.aload_n 0, 1) := by decide +kernel
theorem dX8_haulEverywhere_21 : decode cX8_haulEverywhere 21 = .ok (.iload_n 3, 1) := by decide +kernel
theorem dX8_haulEverywhere_22 : decode cX8_haulEverywhere 22 = .ok (.invokevirtual 267, 3) := by decide +kernel
theorem dX8_haulEverywhere_25 : decode cX8_haulEverywhere 25 = .ok (.iadd, 1) := by decide +kernel
theorem dX8_haulEverywhere_26 : decode cX8_haulEverywhere 26 = .ok (.istore_n 2, 1) := by decide +kernel
theorem dX8_haulEverywhere_27 : decode cX8_haulEverywhere 27 = .ok (.iinc 3 1, 3) := by decide +kernel
theorem dX8_haulEverywhere_30 : decode cX8_haulEverywhere 30 = .ok (.goto (-26), 3) := by decide +kernel
theorem dX8_haulEverywhere_33 : decode cX8_haulEverywhere 33 = .ok (.aload_n 0, 1) := by decide +kernel
theorem dX8_haulEverywhere_34 : decode cX8_haulEverywhere 34 = .ok (.dup, 1) := by decide +kernel
theorem dX8_haulEverywhere_35 : decode cX8_haulEverywhere 35 = .ok (.getfield 241, 3) := by decide +kernel
theorem dX8_haulEverywhere_38 : decode cX8_haulEverywhere 38 = .ok (.iload_n 2, 1) := by decide +kernel
theorem dX8_haulEverywhere_39 : decode cX8_haulEverywhere 39 = .ok (.iadd, 1) := by decide +kernel
theorem dX8_haulEverywhere_40 : decode cX8_haulEverywhere 40 = .ok (.putfield 241, 3) := by decide +kernel
theorem dX8_haulEverywhere_43 : decode cX8_haulEverywhere 43 = .ok (.iload_n 2, 1) := by decide +kernel
theorem dX8_haulEverywhere_44 : decode cX8_haulEverywhere 44 = .ok (.ireturn, 1) := by decide +kernel
theorem dX8_haulIn_0 : decode cX8_haulIn 0 = .ok (.aload_n 0, 1) := by decide +kernel
theorem dX8_haulIn_1 : decode cX8_haulIn 1 = .ok (.getfield 48, 3) := by decide +kernel
theorem dX8_haulIn_4 : decode cX8_haulIn 4 = .ok (.invokevirtual 180, 3) := by decide +kernel
theorem dX8_haulIn_7 : decode cX8_haulIn 7 = .ok (.iconst 0, 1) := by decide +kernel
theorem dX8_haulIn_8 : decode cX8_haulIn 8 = .ok (.istore_n 2, 1) := by decide +kernel
theorem dX8_haulIn_9 : decode cX8_haulIn 9 = .ok (.iload_n 2, 1) := by decide +kernel
theorem dX8_haulIn_10 : decode cX8_haulIn 10 = .ok (.aload_n 0, 1) := by decide +kernel
theorem dX8_haulIn_11 : decode cX8_haulIn 11 = .ok (.getfield 89, 3) := by decide +kernel
theorem dX8_haulIn_14 : decode cX8_haulIn 14 = .ok (.if_icmp .ge 39, 3) := by decide +kernel
theorem dX8_haulIn_17 : decode cX8_haulIn 17 = .ok (.aload_n 0, 1) := by decide +kernel
theorem dX8_haulIn_18 : decode cX8_haulIn 18 = .ok (.iload_n 2, 1) := by decide +kernel
theorem dX8_haulIn_19 : decode cX8_haulIn 19 = .ok (.invokevirtual 95, 3) := by decide +kernel
theorem dX8_haulIn_22 : decode cX8_haulIn 22 = .ok (.astore_n 3, 1) := by decide +kernel
theorem dX8_haulIn_23 : decode cX8_haulIn 23 = .ok (.aload_n 3, 1) := by decide +kernel
theorem dX8_haulIn_24 : decode cX8_haulIn 24 = .ok (.ifnull 23, 3) := by decide +kernel
theorem dX8_haulIn_27 : decode cX8_haulIn 27 = .ok (.aload_n 3, 1) := by decide +kernel
theorem dX8_haulIn_28 : decode cX8_haulIn 28 = .ok (.getfield 99, 3) := by decide +kernel
theorem dX8_haulIn_31 : decode cX8_haulIn 31 = .ok (.iload_n 1, 1) := by decide +kernel
theorem dX8_haulIn_32 : decode cX8_haulIn 32 = .ok (.if_icmp .ne 15, 3) := by decide +kernel
theorem dX8_haulIn_35 : decode cX8_haulIn 35 = .ok (.aload_n 0, 1) := by decide +kernel
theorem dX8_haulIn_36 : decode cX8_haulIn 36 = .ok (.getfield 48, 3) := by decide +kernel
theorem dX8_haulIn_39 : decode cX8_haulIn 39 = .ok (.iload_n 2, 1) := by decide +kernel
theorem dX8_haulIn_40 : decode cX8_haulIn 40 = .ok (.aload_n 3, 1) := by decide +kernel
theorem dX8_haulIn_41 : decode cX8_haulIn 41 = .ok (.getfield 102, 3) := by decide +kernel
theorem dX8_haulIn_44 : decode cX8_haulIn 44 = .ok (.invokevirtual 183, 3) := by decide +kernel
theorem dX8_haulIn_47 : decode cX8_haulIn 47 = .ok (.iinc 2 1, 3) := by decide +kernel
theorem dX8_haulIn_50 : decode cX8_haulIn 50 = .ok (.goto (-41), 3) := by decide +kernel
theorem dX8_haulIn_53 : decode cX8_haulIn 53 = .ok (.iconst 2, 1) := by decide +kernel
theorem dX8_haulIn_54 : decode cX8_haulIn 54 = .ok (.aload_n 0, 1) := by decide +kernel
theorem dX8_haulIn_55 : decode cX8_haulIn 55 = .ok (.getfield 48, 3) := by decide +kernel
theorem dX8_haulIn_58 : decode cX8_haulIn 58 = .ok (.getfield 186, 3) := by decide +kernel
theorem dX8_haulIn_61 : decode cX8_haulIn 61 = .ok (.imul, 1) := by decide +kernel
theorem dX8_haulIn_62 : decode cX8_haulIn 62 = .ok (.aload_n 0, 1) := by decide +kernel
theorem dX8_haulIn_63 : decode cX8_haulIn 63 = .ok (.getfield 12, 3) := by decide +kernel
theorem dX8_haulIn_66 : decode cX8_haulIn 66 = .ok (.getfield 78, 3) := by decide +kernel
theorem dX8_haulIn_69 : decode cX8_haulIn 69 = .ok (.iload_n 1, 1) := by decide +kernel
theorem dX8_haulIn_70 : decode cX8_haulIn 70 = .ok (.iaload, 1) := by decide +kernel
theorem dX8_haulIn_71 : decode cX8_haulIn 71 = .ok (.invokestatic 270, 3) := by decide +kernel
theorem dX8_haulIn_74 : decode cX8_haulIn 74 = .ok (.istore_n 2, 1) := by decide +kernel
theorem dX8_haulIn_75 : decode cX8_haulIn 75 = .ok (.iload_n 2, 1) := by decide +kernel
theorem dX8_haulIn_76 : decode cX8_haulIn 76 = .ok (.ifCond .ne 5, 3) := by decide +kernel
theorem dX8_haulIn_79 : decode cX8_haulIn 79 = .ok (.iconst 0, 1) := by decide +kernel
theorem dX8_haulIn_80 : decode cX8_haulIn 80 = .ok (.ireturn, 1) := by decide +kernel
theorem dX8_haulIn_81 : decode cX8_haulIn 81 = .ok (.aload_n 0, 1) := by decide +kernel
theorem dX8_haulIn_82 : decode cX8_haulIn 82 = .ok (.getfield 48, 3) := by decide +kernel
theorem dX8_haulIn_85 : decode cX8_haulIn 85 = .ok (.iload_n 2, 1) := by decide +kernel
theorem dX8_haulIn_86 : decode cX8_haulIn 86 = .ok (.invokevirtual 189, 3) := by decide +kernel
theorem dX8_haulIn_89 : decode cX8_haulIn 89 = .ok (.iconst 0, 1) := by decide +kernel
theorem dX8_haulIn_90 : decode cX8_haulIn 90 = .ok (.istore_n 3, 1) := by decide +kernel
theorem dX8_haulIn_91 : decode cX8_haulIn 91 = .ok (.iload_n 3, 1) := by decide +kernel
theorem dX8_haulIn_92 : decode cX8_haulIn 92 = .ok (.aload_n 0, 1) := by decide +kernel
theorem dX8_haulIn_93 : decode cX8_haulIn 93 = .ok (.getfield 89, 3) := by decide +kernel
theorem dX8_haulIn_96 : decode cX8_haulIn 96 = .ok (.if_icmp .ge 35, 3) := by decide +kernel
theorem dX8_haulIn_99 : decode cX8_haulIn 99 = .ok (.aload_n 0, 1) := by decide +kernel
theorem dX8_haulIn_100 : decode cX8_haulIn 100 = .ok (.iload_n 3, 1) := by decide +kernel
theorem dX8_haulIn_101 : decode cX8_haulIn 101 = .ok (.invokevirtual 95, 3) := by decide +kernel
theorem dX8_haulIn_104 : decode cX8_haulIn 104 = .ok (.astore 4, 2) := by decide +kernel
theorem dX8_haulIn_106 : decode cX8_haulIn 106 = .ok (.aload 4, 2) := by decide +kernel
theorem dX8_haulIn_108 : decode cX8_haulIn 108 = .ok (.ifnull 17, 3) := by decide +kernel
theorem dX8_haulIn_111 : decode cX8_haulIn 111 = .ok (.aload 4, 2) := by decide +kernel
theorem dX8_haulIn_113 : decode cX8_haulIn 113 = .ok (.aload_n 0, 1) := by decide +kernel
theorem dX8_haulIn_114 : decode cX8_haulIn 114 = .ok (.getfield 48, 3) := by decide +kernel
theorem dX8_haulIn_117 : decode cX8_haulIn 117 = .ok (.getfield 195, 3) := by decide +kernel
theorem dX8_haulIn_120 : decode cX8_haulIn 120 = .ok (.iload_n 3, 1) := by decide +kernel
theorem dX8_haulIn_121 : decode cX8_haulIn 121 = .ok (.iaload, 1) := by decide +kernel
theorem dX8_haulIn_122 : decode cX8_haulIn 122 = .ok (.invokevirtual 276, 3) := by decide +kernel
theorem dX8_haulIn_125 : decode cX8_haulIn 125 = .ok (.iinc 3 1, 3) := by decide +kernel
theorem dX8_haulIn_128 : decode cX8_haulIn 128 = .ok (.goto (-37), 3) := by decide +kernel
theorem dX8_haulIn_131 : decode cX8_haulIn 131 = .ok (.aload_n 0, 1) := by decide +kernel
theorem dX8_haulIn_132 : decode cX8_haulIn 132 = .ok (.getfield 12, 3) := by decide +kernel
theorem dX8_haulIn_135 : decode cX8_haulIn 135 = .ok (.getfield 78, 3) := by decide +kernel
theorem dX8_haulIn_138 : decode cX8_haulIn 138 = .ok (.iload_n 1, 1) := by decide +kernel
theorem dX8_haulIn_139 : decode cX8_haulIn 139 = .ok (.dup2, 1) := by decide +kernel
theorem dX8_haulIn_140 : decode cX8_haulIn 140 = .ok (.iaload, 1) := by decide +kernel
theorem dX8_haulIn_141 : decode cX8_haulIn 141 = .ok (.iload_n 2, 1) := by decide +kernel
theorem dX8_haulIn_142 : decode cX8_haulIn 142 = .ok (.isub, 1) := by decide +kernel
theorem dX8_haulIn_143 : decode cX8_haulIn 143 = .ok (.iastore, 1) := by decide +kernel
theorem dX8_haulIn_144 : decode cX8_haulIn 144 = .ok (.iload_n 2, 1) := by decide +kernel
theorem dX8_haulIn_145 : decode cX8_haulIn 145 = .ok (.ireturn, 1) := by decide +kernel
theorem dX8_sellAllCatches_0 : decode cX8_sellAllCatches 0 = .ok (.iconst 0, 1) := by decide +kernel
theorem dX8_sellAllCatches_1 : decode cX8_sellAllCatches 1 = .ok (.istore_n 1, 1) := by decide +kernel
theorem dX8_sellAllCatches_2 : decode cX8_sellAllCatches 2 = .ok (.iload_n 1, 1) := by decide +kernel
theorem dX8_sellAllCatches_3 : decode cX8_sellAllCatches 3 = .ok (.bipush 10, 2) := by decide +kernel
theorem dX8_sellAllCatches_5 : decode cX8_sellAllCatches 5 = .ok (.if_icmp .gt 65, 3) := by decide +kernel
theorem dX8_sellAllCatches_8 : decode cX8_sellAllCatches 8 = .ok (.iconst 0, 1) := by decide +kernel
theorem dX8_sellAllCatches_9 : decode cX8_sellAllCatches 9 = .ok (.istore_n 2, 1) := by decide +kernel
theorem dX8_sellAllCatches_10 : decode cX8_sellAllCatches 10 = .ok (.iload_n 2, 1) := by decide +kernel
theorem dX8_sellAllCatches_11 : decode cX8_sellAllCatches 11 = .ok (.aload_n 0, 1) := by decide +kernel
theorem dX8_sellAllCatches_12 : decode cX8_sellAllCatches 12 = .ok (.getfield 89, 3) := by decide +kernel
theorem dX8_sellAllCatches_15 : decode cX8_sellAllCatches 15 = .ok (.if_icmp .ge 49, 3) := by decide +kernel
theorem dX8_sellAllCatches_18 : decode cX8_sellAllCatches 18 = .ok (.aload_n 0, 1) := by decide +kernel
theorem dX8_sellAllCatches_19 : decode cX8_sellAllCatches 19 = .ok (.iload_n 2, 1) := by decide +kernel
theorem dX8_sellAllCatches_20 : decode cX8_sellAllCatches 20 = .ok (.invokevirtual 95, 3) := by decide +kernel
theorem dX8_sellAllCatches_23 : decode cX8_sellAllCatches 23 = .ok (.astore_n 3, 1) := by decide +kernel
theorem dX8_sellAllCatches_24 : decode cX8_sellAllCatches 24 = .ok (.aload_n 3, 1) := by decide +kernel
theorem dX8_sellAllCatches_25 : decode cX8_sellAllCatches 25 = .ok (.ifnull 33, 3) := by decide +kernel
theorem dX8_sellAllCatches_28 : decode cX8_sellAllCatches 28 = .ok (.aload_n 3, 1) := by decide +kernel
theorem dX8_sellAllCatches_29 : decode cX8_sellAllCatches 29 = .ok (.getfield 204, 3) := by decide +kernel
theorem dX8_sellAllCatches_32 : decode cX8_sellAllCatches 32 = .ok (.ifCond .le 26, 3) := by decide +kernel
theorem dX8_sellAllCatches_35 : decode cX8_sellAllCatches 35 = .ok (.aload_n 3, 1) := by decide +kernel
theorem dX8_sellAllCatches_36 : decode cX8_sellAllCatches 36 = .ok (.getfield 99, 3) := by decide +kernel
theorem dX8_sellAllCatches_39 : decode cX8_sellAllCatches 39 = .ok (.invokestatic 279, 3) := by decide +kernel
theorem dX8_sellAllCatches_42 : decode cX8_sellAllCatches 42 = .ok (.iload_n 1, 1) := by decide +kernel
theorem dX8_sellAllCatches_43 : decode cX8_sellAllCatches 43 = .ok (.if_icmp .ne 15, 3) := by decide +kernel
theorem dX8_sellAllCatches_46 : decode cX8_sellAllCatches 46 = .ok (.aload_n 0, 1) := by decide +kernel
theorem dX8_sellAllCatches_47 : decode cX8_sellAllCatches 47 = .ok (.iload_n 2, 1) := by decide +kernel
theorem dX8_sellAllCatches_48 : decode cX8_sellAllCatches 48 = .ok (.aload_n 3, 1) := by decide +kernel
theorem dX8_sellAllCatches_49 : decode cX8_sellAllCatches 49 = .ok (.bipush 30, 2) := by decide +kernel
theorem dX8_sellAllCatches_51 : decode cX8_sellAllCatches 51 = .ok (.iload_n 1, 1) := by decide +kernel
theorem dX8_sellAllCatches_52 : decode cX8_sellAllCatches 52 = .ok (.iconst 1, 1) := by decide +kernel
theorem dX8_sellAllCatches_53 : decode cX8_sellAllCatches 53 = .ok (.iadd, 1) := by decide +kernel
theorem dX8_sellAllCatches_54 : decode cX8_sellAllCatches 54 = .ok (.imul, 1) := by decide +kernel
theorem dX8_sellAllCatches_55 : decode cX8_sellAllCatches 55 = .ok (.invokevirtual 282, 3) := by decide +kernel
theorem dX8_sellAllCatches_58 : decode cX8_sellAllCatches 58 = .ok (.iinc 2 1, 3) := by decide +kernel
theorem dX8_sellAllCatches_61 : decode cX8_sellAllCatches 61 = .ok (.goto (-51), 3) := by decide +kernel
theorem dX8_sellAllCatches_64 : decode cX8_sellAllCatches 64 = .ok (.iinc 1 1, 3) := by decide +kernel
theorem dX8_sellAllCatches_67 : decode cX8_sellAllCatches 67 = .ok (.goto (-65), 3) := by decide +kernel
theorem dX8_sellAllCatches_70 : decode cX8_sellAllCatches 70 = .ok (.return_, 1) := by decide +kernel
theorem dX8_sellCatch_0 : decode cX8_sellCatch 0 = .ok (.aload_n 2, 1) := by decide +kernel
theorem dX8_sellCatch_1 : decode cX8_sellCatch 1 = .ok (.getfield 204, 3) := by decide +kernel
theorem dX8_sellCatch_4 : decode cX8_sellCatch 4 = .ok (.istore 4, 2) := by decide +kernel
theorem dX8_sellCatch_6 : decode cX8_sellCatch 6 = .ok (.iconst 0, 1) := by decide +kernel
theorem dX8_sellCatch_7 : decode cX8_sellCatch 7 = .ok (.istore 5, 2) := by decide +kernel
theorem dX8_sellCatch_9 : decode cX8_sellCatch 9 = .ok (.iload 5, 2) := by decide +kernel
theorem dX8_sellCatch_11 : decode cX8_sellCatch 11 = .ok (.iconst 4, 1) := by decide +kernel
theorem dX8_sellCatch_12 : decode cX8_sellCatch 12 = .ok (.if_icmp .ge 139, 3) := by decide +kernel
theorem dX8_sellCatch_15 : decode cX8_sellCatch 15 = .ok (.iload 4, 2) := by decide +kernel
theorem dX8_sellCatch_17 : decode cX8_sellCatch 17 = .ok (.ifCond .le 134, 3) := by decide +kernel
theorem dX8_sellCatch_20 : decode cX8_sellCatch 20 = .ok (.aload_n 0, 1) := by decide +kernel
theorem dX8_sellCatch_21 : decode cX8_sellCatch 21 = .ok (.invokevirtual 286, 3) := by decide +kernel
theorem dX8_sellCatch_24 : decode cX8_sellCatch 24 = .ok (.istore 6, 2) := by decide +kernel
theorem dX8_sellCatch_26 : decode cX8_sellCatch 26 = .ok (.aload_n 0, 1) := by decide +kernel
theorem dX8_sellCatch_27 : decode cX8_sellCatch 27 = .ok (.iload 6, 2) := by decide +kernel
theorem dX8_sellCatch_29 : decode cX8_sellCatch 29 = .ok (.invokevirtual 111, 3) := by decide +kernel
theorem dX8_sellCatch_32 : decode cX8_sellCatch 32 = .ok (.astore 7, 2) := by decide +kernel
theorem dX8_sellCatch_34 : decode cX8_sellCatch 34 = .ok (.aload 7, 2) := by decide +kernel
theorem dX8_sellCatch_36 : decode cX8_sellCatch 36 = .ok (.ifnull 115, 3) := by decide +kernel
theorem dX8_sellCatch_39 : decode cX8_sellCatch 39 = .ok (.aload_n 0, 1) := by decide +kernel
theorem dX8_sellCatch_40 : decode cX8_sellCatch 40 = .ok (.getfield 121, 3) := by decide +kernel
theorem dX8_sellCatch_43 : decode cX8_sellCatch 43 = .ok (.sipush 400, 3) := by decide +kernel
theorem dX8_sellCatch_46 : decode cX8_sellCatch 46 = .ok (.if_icmp .lt 6, 3) := by decide +kernel
theorem dX8_sellCatch_49 : decode cX8_sellCatch 49 = .ok (.goto 102, 3) := by decide +kernel
theorem dX8_sellCatch_52 : decode cX8_sellCatch 52 = .ok (.iload 4, 2) := by decide +kernel
theorem dX8_sellCatch_54 : decode cX8_sellCatch 54 = .ok (.aload 7, 2) := by decide +kernel
theorem dX8_sellCatch_56 : decode cX8_sellCatch 56 = .ok (.getfield 289, 3) := by decide +kernel
theorem dX8_sellCatch_59 : decode cX8_sellCatch 59 = .ok (.invokestatic 270, 3) := by decide +kernel
theorem dX8_sellCatch_62 : decode cX8_sellCatch 62 = .ok (.istore 8, 2) := by decide +kernel
theorem dX8_sellCatch_64 : decode cX8_sellCatch 64 = .ok (.aload_n 0, 1) := by decide +kernel
theorem dX8_sellCatch_65 : decode cX8_sellCatch 65 = .ok (.getfield 30, 3) := by decide +kernel
theorem dX8_sellCatch_68 : decode cX8_sellCatch 68 = .ok (.aload_n 0, 1) := by decide +kernel
theorem dX8_sellCatch_69 : decode cX8_sellCatch 69 = .ok (.getfield 121, 3) := by decide +kernel
theorem dX8_sellCatch_72 : decode cX8_sellCatch 72 = .ok (.new 28, 3) := by decide +kernel
theorem dX8_sellCatch_75 : decode cX8_sellCatch 75 = .ok (.dup, 1) := by decide +kernel
theorem dX8_sellCatch_76 : decode cX8_sellCatch 76 = .ok (.aload_n 0, 1) := by decide +kernel
theorem dX8_sellCatch_77 : decode cX8_sellCatch 77 = .ok (.getfield 118, 3) := by decide +kernel
theorem dX8_sellCatch_80 : decode cX8_sellCatch 80 = .ok (.iload_n 1, 1) := by decide +kernel
theorem dX8_sellCatch_81 : decode cX8_sellCatch 81 = .ok (.aload_n 2, 1) := by decide +kernel
theorem dX8_sellCatch_82 : decode cX8_sellCatch 82 = .ok (.getfield 99, 3) := by decide +kernel
theorem dX8_sellCatch_85 : decode cX8_sellCatch 85 = .ok (.iload 6, 2) := by decide +kernel
theorem dX8_sellCatch_87 : decode cX8_sellCatch 87 = .ok (.iload 8, 2) := by decide +kernel
theorem dX8_sellCatch_89 : decode cX8_sellCatch 89 = .ok (.iload_n 3, 1) := by decide +kernel
theorem dX8_sellCatch_90 : decode cX8_sellCatch 90 = .ok (.aload 7, 2) := by decide +kernel
theorem dX8_sellCatch_92 : decode cX8_sellCatch 92 = .ok (.getfield 115, 3) := by decide +kernel
theorem dX8_sellCatch_95 : decode cX8_sellCatch 95 = .ok (.invokespecial 292, 3) := by decide +kernel
theorem dX8_sellCatch_98 : decode cX8_sellCatch 98 = .ok (.aastore, 1) := by decide +kernel
theorem dX8_sellCatch_99 : decode cX8_sellCatch 99 = .ok (.aload_n 0, 1) := by decide +kernel
theorem dX8_sellCatch_100 : decode cX8_sellCatch 100 = .ok (.dup, 1) := by decide +kernel
theorem dX8_sellCatch_101 : decode cX8_sellCatch 101 = .ok (.getfield 121, 3) := by decide +kernel
theorem dX8_sellCatch_104 : decode cX8_sellCatch 104 = .ok (.iconst 1, 1) := by decide +kernel
theorem dX8_sellCatch_105 : decode cX8_sellCatch 105 = .ok (.iadd, 1) := by decide +kernel
theorem dX8_sellCatch_106 : decode cX8_sellCatch 106 = .ok (.putfield 121, 3) := by decide +kernel
theorem dX8_sellCatch_109 : decode cX8_sellCatch 109 = .ok (.aload 7, 2) := by decide +kernel
theorem dX8_sellCatch_111 : decode cX8_sellCatch 111 = .ok (.dup, 1) := by decide +kernel
theorem dX8_sellCatch_112 : decode cX8_sellCatch 112 = .ok (.getfield 289, 3) := by decide +kernel
theorem dX8_sellCatch_115 : decode cX8_sellCatch 115 = .ok (.iload 8, 2) := by decide +kernel
theorem dX8_sellCatch_117 : decode cX8_sellCatch 117 = .ok (.isub, 1) := by decide +kernel
theorem dX8_sellCatch_118 : decode cX8_sellCatch 118 = .ok (.putfield 289, 3) := by decide +kernel
theorem dX8_sellCatch_121 : decode cX8_sellCatch 121 = .ok (.aload_n 2, 1) := by decide +kernel
theorem dX8_sellCatch_122 : decode cX8_sellCatch 122 = .ok (.dup, 1) := by decide +kernel
theorem dX8_sellCatch_123 : decode cX8_sellCatch 123 = .ok (.getfield 177, 3) := by decide +kernel
theorem dX8_sellCatch_126 : decode cX8_sellCatch 126 = .ok (.iload 8, 2) := by decide +kernel
theorem dX8_sellCatch_128 : decode cX8_sellCatch 128 = .ok (.aload 7, 2) := by decide +kernel
theorem dX8_sellCatch_130 : decode cX8_sellCatch 130 = .ok (.getfield 115, 3) := by decide +kernel
theorem dX8_sellCatch_133 : decode cX8_sellCatch 133 = .ok (.imul, 1) := by decide +kernel
theorem dX8_sellCatch_134 : decode cX8_sellCatch 134 = .ok (.iadd, 1) := by decide +kernel
theorem dX8_sellCatch_135 : decode cX8_sellCatch 135 = .ok (.putfield 177, 3) := by decide +kernel
theorem dX8_sellCatch_138 : decode cX8_sellCatch 138 = .ok (.iload 4, 2) := by decide +kernel
theorem dX8_sellCatch_140 : decode cX8_sellCatch 140 = .ok (.iload 8, 2) := by decide +kernel
theorem dX8_sellCatch_142 : decode cX8_sellCatch 142 = .ok (.isub, 1) := by decide +kernel
theorem dX8_sellCatch_143 : decode cX8_sellCatch 143 = .ok (.istore 4, 2) := by decide +kernel
theorem dX8_sellCatch_145 : decode cX8_sellCatch 145 = .ok (.iinc 5 1, 3) := by decide +kernel
theorem dX8_sellCatch_148 : decode cX8_sellCatch 148 = .ok (.goto (-139), 3) := by decide +kernel
theorem dX8_sellCatch_151 : decode cX8_sellCatch 151 = .ok (.aload_n 0, 1) := by decide +kernel
theorem dX8_sellCatch_152 : decode cX8_sellCatch 152 = .ok (.dup, 1) := by decide +kernel
theorem dX8_sellCatch_153 : decode cX8_sellCatch 153 = .ok (.getfield 251, 3) := by decide +kernel
theorem dX8_sellCatch_156 : decode cX8_sellCatch 156 = .ok (.iload 4, 2) := by decide +kernel
theorem dX8_sellCatch_158 : decode cX8_sellCatch 158 = .ok (.iadd, 1) := by decide +kernel
theorem dX8_sellCatch_159 : decode cX8_sellCatch 159 = .ok (.putfield 251, 3) := by decide +kernel
theorem dX8_sellCatch_162 : decode cX8_sellCatch 162 = .ok (.return_, 1) := by decide +kernel
theorem dX8_bestBidder_0 : decode cX8_bestBidder 0 = .ok (.iconst (-1), 1) := by decide +kernel
theorem dX8_bestBidder_1 : decode cX8_bestBidder 1 = .ok (.istore_n 1, 1) := by decide +kernel
theorem dX8_bestBidder_2 : decode cX8_bestBidder 2 = .ok (.iconst (-1), 1) := by decide +kernel
theorem dX8_bestBidder_3 : decode cX8_bestBidder 3 = .ok (.istore_n 2, 1) := by decide +kernel
theorem dX8_bestBidder_4 : decode cX8_bestBidder 4 = .ok (.iconst 0, 1) := by decide +kernel
theorem dX8_bestBidder_5 : decode cX8_bestBidder 5 = .ok (.istore_n 3, 1) := by decide +kernel
theorem dX8_bestBidder_6 : decode cX8_bestBidder 6 = .ok (.iload_n 3, 1) := by decide +kernel
theorem dX8_bestBidder_7 : decode cX8_bestBidder 7 = .ok (.aload_n 0, 1) := by decide +kernel
theorem dX8_bestBidder_8 : decode cX8_bestBidder 8 = .ok (.getfield 105, 3) := by decide +kernel
theorem dX8_bestBidder_11 : decode cX8_bestBidder 11 = .ok (.if_icmp .ge 46, 3) := by decide +kernel
theorem dX8_bestBidder_14 : decode cX8_bestBidder 14 = .ok (.aload_n 0, 1) := by decide +kernel
theorem dX8_bestBidder_15 : decode cX8_bestBidder 15 = .ok (.iload_n 3, 1) := by decide +kernel
theorem dX8_bestBidder_16 : decode cX8_bestBidder 16 = .ok (.invokevirtual 111, 3) := by decide +kernel
theorem dX8_bestBidder_19 : decode cX8_bestBidder 19 = .ok (.astore 4, 2) := by decide +kernel
theorem dX8_bestBidder_21 : decode cX8_bestBidder 21 = .ok (.aload 4, 2) := by decide +kernel
theorem dX8_bestBidder_23 : decode cX8_bestBidder 23 = .ok (.ifnull 28, 3) := by decide +kernel
theorem dX8_bestBidder_26 : decode cX8_bestBidder 26 = .ok (.aload 4, 2) := by decide +kernel
theorem dX8_bestBidder_28 : decode cX8_bestBidder 28 = .ok (.getfield 289, 3) := by decide +kernel
theorem dX8_bestBidder_31 : decode cX8_bestBidder 31 = .ok (.ifCond .le 20, 3) := by decide +kernel
theorem dX8_bestBidder_34 : decode cX8_bestBidder 34 = .ok (.aload 4, 2) := by decide +kernel
theorem dX8_bestBidder_36 : decode cX8_bestBidder 36 = .ok (.getfield 115, 3) := by decide +kernel
theorem dX8_bestBidder_39 : decode cX8_bestBidder 39 = .ok (.iload_n 2, 1) := by decide +kernel
theorem dX8_bestBidder_40 : decode cX8_bestBidder 40 = .ok (.if_icmp .le 11, 3) := by decide +kernel
theorem dX8_bestBidder_43 : decode cX8_bestBidder 43 = .ok (.iload_n 3, 1) := by decide +kernel
theorem dX8_bestBidder_44 : decode cX8_bestBidder 44 = .ok (.istore_n 1, 1) := by decide +kernel
theorem dX8_bestBidder_45 : decode cX8_bestBidder 45 = .ok (.aload 4, 2) := by decide +kernel
theorem dX8_bestBidder_47 : decode cX8_bestBidder 47 = .ok (.getfield 115, 3) := by decide +kernel
theorem dX8_bestBidder_50 : decode cX8_bestBidder 50 = .ok (.istore_n 2, 1) := by decide +kernel
theorem dX8_bestBidder_51 : decode cX8_bestBidder 51 = .ok (.iinc 3 1, 3) := by decide +kernel
theorem dX8_bestBidder_54 : decode cX8_bestBidder 54 = .ok (.goto (-48), 3) := by decide +kernel
theorem dX8_bestBidder_57 : decode cX8_bestBidder 57 = .ok (.iload_n 1, 1) := by decide +kernel
theorem dX8_bestBidder_58 : decode cX8_bestBidder 58 = .ok (.ireturn, 1) := by decide +kernel
theorem dX8_gutLotsFrom_0 : decode cX8_gutLotsFrom 0 = .ok (.iload_n 1, 1) := by decide +kernel
theorem dX8_gutLotsFrom_1 : decode cX8_gutLotsFrom 1 = .ok (.istore_n 2, 1) := by decide +kernel
theorem dX8_gutLotsFrom_2 : decode cX8_gutLotsFrom 2 = .ok (.iload_n 2, 1) := by decide +kernel
theorem dX8_gutLotsFrom_3 : decode cX8_gutLotsFrom 3 = .ok (.aload_n 0, 1) := by decide +kernel
theorem dX8_gutLotsFrom_4 : decode cX8_gutLotsFrom 4 = .ok (.getfield 121, 3) := by decide +kernel
theorem dX8_gutLotsFrom_7 : decode cX8_gutLotsFrom 7 = .ok (.if_icmp .ge 24, 3) := by decide +kernel
theorem dX8_gutLotsFrom_10 : decode cX8_gutLotsFrom 10 = .ok (.aload_n 0, 1) := by decide +kernel
theorem dX8_gutLotsFrom_11 : decode cX8_gutLotsFrom 11 = .ok (.iload_n 2, 1) := by decide +kernel
theorem dX8_gutLotsFrom_12 : decode cX8_gutLotsFrom 12 = .ok (.invokevirtual 163, 3) := by decide +kernel
theorem dX8_gutLotsFrom_15 : decode cX8_gutLotsFrom 15 = .ok (.astore_n 3, 1) := by decide +kernel
theorem dX8_gutLotsFrom_16 : decode cX8_gutLotsFrom 16 = .ok (.aload_n 3, 1) := by decide +kernel
theorem dX8_gutLotsFrom_17 : decode cX8_gutLotsFrom 17 = .ok (.ifnull 8, 3) := by decide +kernel
theorem dX8_gutLotsFrom_20 : decode cX8_gutLotsFrom 20 = .ok (.aload_n 0, 1) := by decide +kernel
theorem dX8_gutLotsFrom_21 : decode cX8_gutLotsFrom 21 = .ok (.aload_n 3, 1) := by decide +kernel
theorem dX8_gutLotsFrom_22 : decode cX8_gutLotsFrom 22 = .ok (.invokevirtual 295, 3) := by decide +kernel
theorem dX8_gutLotsFrom_25 : decode cX8_gutLotsFrom 25 = .ok (.iinc 2 1, 3) := by decide +kernel
theorem dX8_gutLotsFrom_28 : decode cX8_gutLotsFrom 28 = .ok (.goto (-26), 3) := by decide +kernel
theorem dX8_gutLotsFrom_31 : decode cX8_gutLotsFrom 31 = .ok (.return_, 1) := by decide +kernel
theorem dX8_gutLot_0 : decode cX8_gutLot 0 = .ok (.aload_n 0, 1) := by decide +kernel
theorem dX8_gutLot_1 : decode cX8_gutLot 1 = .ok (.aload_n 1, 1) := by decide +kernel
theorem dX8_gutLot_2 : decode cX8_gutLot 2 = .ok (.getfield 214, 3) := by decide +kernel
theorem dX8_gutLot_5 : decode cX8_gutLot 5 = .ok (.invokevirtual 111, 3) := by decide +kernel
theorem dX8_gutLot_8 : decode cX8_gutLot 8 = .ok (.astore_n 2, 1) := by decide +kernel
theorem dX8_gutLot_9 : decode cX8_gutLot 9 = .ok (.aload_n 2, 1) := by decide +kernel
theorem dX8_gutLot_10 : decode cX8_gutLot 10 = .ok (.ifnonnull 4, 3) := by decide +kernel
theorem dX8_gutLot_13 : decode cX8_gutLot 13 = .ok (.return_, 1) := by decide +kernel
theorem dX8_gutLot_14 : decode cX8_gutLot 14 = .ok (.aload_n 2, 1) := by decide +kernel
theorem dX8_gutLot_15 : decode cX8_gutLot 15 = .ok (.aload_n 1, 1) := by decide +kernel
theorem dX8_gutLot_16 : decode cX8_gutLot 16 = .ok (.aload_n 0, 1) := by decide +kernel
theorem dX8_gutLot_17 : decode cX8_gutLot 17 = .ok (.getfield 66, 3) := by decide +kernel
theorem dX8_gutLot_20 : decode cX8_gutLot 20 = .ok (.invokevirtual 299, 3) := by decide +kernel
theorem dX8_gutLot_23 : decode cX8_gutLot 23 = .ok (.aload_n 0, 1) := by decide +kernel
theorem dX8_gutLot_24 : decode cX8_gutLot 24 = .ok (.dup, 1) := by decide +kernel
theorem dX8_gutLot_25 : decode cX8_gutLot 25 = .ok (.getfield 242, 3) := by decide +kernel
theorem dX8_gutLot_28 : decode cX8_gutLot 28 = .ok (.aload_n 1, 1) := by decide +kernel
theorem dX8_gutLot_29 : decode cX8_gutLot 29 = .ok (.getfield 219, 3) := by decide +kernel
theorem dX8_gutLot_32 : decode cX8_gutLot 32 = .ok (.iadd, 1) := by decide +kernel
theorem dX8_gutLot_33 : decode cX8_gutLot 33 = .ok (.putfield 242, 3) := by decide +kernel
theorem dX8_gutLot_36 : decode cX8_gutLot 36 = .ok (.aload_n 0, 1) := by decide +kernel
theorem dX8_gutLot_37 : decode cX8_gutLot 37 = .ok (.dup, 1) := by decide +kernel
theorem dX8_gutLot_38 : decode cX8_gutLot 38 = .ok (.getfield 245, 3) := by decide +kernel
theorem dX8_gutLot_41 : decode cX8_gutLot 41 = .ok (.aload_n 1, 1) := by decide +kernel
theorem dX8_gutLot_42 : decode cX8_gutLot 42 = .ok (.getfield 222, 3) := by decide +kernel
theorem dX8_gutLot_45 : decode cX8_gutLot 45 = .ok (.iadd, 1) := by decide +kernel
theorem dX8_gutLot_46 : decode cX8_gutLot 46 = .ok (.putfield 245, 3) := by decide +kernel
theorem dX8_gutLot_49 : decode cX8_gutLot 49 = .ok (.return_, 1) := by decide +kernel
