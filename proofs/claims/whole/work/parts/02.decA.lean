theorem dX0_init_0 : decode cX0_init 0 = .ok (.aload_n 0, 1) := by decide +kernel
theorem dX0_init_1 : decode cX0_init 1 = .ok (.invokespecial 3, 3) := by decide +kernel
theorem dX0_init_4 : decode cX0_init 4 = .ok (.aload_n 0, 1) := by decide +kernel
theorem dX0_init_5 : decode cX0_init 5 = .ok (.bipush 8, 2) := by decide +kernel
theorem dX0_init_7 : decode cX0_init 7 = .ok (.newarray .int, 2) := by decide +kernel
theorem dX0_init_9 : decode cX0_init 9 = .ok (.putfield 9, 3) := by decide +kernel
theorem dX0_init_12 : decode cX0_init 12 = .ok (.aload_n 0, 1) := by decide +kernel
theorem dX0_init_13 : decode cX0_init 13 = .ok (.bipush 8, 2) := by decide +kernel
theorem dX0_init_15 : decode cX0_init 15 = .ok (.newarray .int, 2) := by decide +kernel
theorem dX0_init_17 : decode cX0_init 17 = .ok (.putfield 15, 3) := by decide +kernel
theorem dX0_init_20 : decode cX0_init 20 = .ok (.aload_n 0, 1) := by decide +kernel
theorem dX0_init_21 : decode cX0_init 21 = .ok (.iconst (-1), 1) := by decide +kernel
theorem dX0_init_22 : decode cX0_init 22 = .ok (.putfield 18, 3) := by decide +kernel
theorem dX0_init_25 : decode cX0_init 25 = .ok (.aload_n 0, 1) := by decide +kernel
theorem dX0_init_26 : decode cX0_init 26 = .ok (.iload_n 1, 1) := by decide +kernel
theorem dX0_init_27 : decode cX0_init 27 = .ok (.putfield 22, 3) := by decide +kernel
theorem dX0_init_30 : decode cX0_init 30 = .ok (.return_, 1) := by decide +kernel
theorem dX0_isHand_0 : decode cX0_isHand 0 = .ok (.iload_n 0, 1) := by decide +kernel
theorem dX0_isHand_1 : decode cX0_isHand 1 = .ok (.ifCond .lt 13, 3) := by decide +kernel
theorem dX0_isHand_4 : decode cX0_isHand 4 = .ok (.iload_n 0, 1) := by decide +kernel
theorem dX0_isHand_5 : decode cX0_isHand 5 = .ok (.bipush 8, 2) := by decide +kernel
theorem dX0_isHand_7 : decode cX0_isHand 7 = .ok (.if_icmp .ge 7, 3) := by decide +kernel
theorem dX0_isHand_10 : decode cX0_isHand 10 = .ok (.iconst 1, 1) := by decide +kernel
theorem dX0_isHand_11 : decode cX0_isHand 11 = .ok (.goto 4, 3) := by decide +kernel
theorem dX0_isHand_14 : decode cX0_isHand 14 = .ok (.iconst 0, 1) := by decide +kernel
theorem dX0_isHand_15 : decode cX0_isHand 15 = .ok (.ireturn, 1) := by decide +kernel
theorem dX0_loseNets_0 : decode cX0_loseNets 0 = .ok (.aload_n 0, 1) := by decide +kernel
theorem dX0_loseNets_1 : decode cX0_loseNets 1 = .ok (.getfield 22, 3) := by decide +kernel
theorem dX0_loseNets_4 : decode cX0_loseNets 4 = .ok (.iconst 5, 1) := by decide +kernel
theorem dX0_loseNets_5 : decode cX0_loseNets 5 = .ok (.idiv, 1) := by decide +kernel
theorem dX0_loseNets_6 : decode cX0_loseNets 6 = .ok (.istore_n 1, 1) := by decide +kernel
theorem dX0_loseNets_7 : decode cX0_loseNets 7 = .ok (.aload_n 0, 1) := by decide +kernel
theorem dX0_loseNets_8 : decode cX0_loseNets 8 = .ok (.dup, 1) := by decide +kernel
theorem dX0_loseNets_9 : decode cX0_loseNets 9 = .ok (.getfield 22, 3) := by decide +kernel
theorem dX0_loseNets_12 : decode cX0_loseNets 12 = .ok (.iload_n 1, 1) := by decide +kernel
theorem dX0_loseNets_13 : decode cX0_loseNets 13 = .ok (.isub, 1) := by decide +kernel
theorem dX0_loseNets_14 : decode cX0_loseNets 14 = .ok (.putfield 22, 3) := by decide +kernel
theorem dX0_loseNets_17 : decode cX0_loseNets 17 = .ok (.aload_n 0, 1) := by decide +kernel
theorem dX0_loseNets_18 : decode cX0_loseNets 18 = .ok (.dup, 1) := by decide +kernel
theorem dX0_loseNets_19 : decode cX0_loseNets 19 = .ok (.getfield 25, 3) := by decide +kernel
theorem dX0_loseNets_22 : decode cX0_loseNets 22 = .ok (.iload_n 1, 1) := by decide +kernel
theorem dX0_loseNets_23 : decode cX0_loseNets 23 = .ok (.iadd, 1) := by decide +kernel
theorem dX0_loseNets_24 : decode cX0_loseNets 24 = .ok (.putfield 25, 3) := by decide +kernel
theorem dX0_loseNets_27 : decode cX0_loseNets 27 = .ok (.return_, 1) := by decide +kernel
theorem dX0_takeIn_0 : decode cX0_takeIn 0 = .ok (.aload_n 0, 1) := by decide +kernel
theorem dX0_takeIn_1 : decode cX0_takeIn 1 = .ok (.dup, 1) := by decide +kernel
theorem dX0_takeIn_2 : decode cX0_takeIn 2 = .ok (.getfield 28, 3) := by decide +kernel
theorem dX0_takeIn_5 : decode cX0_takeIn 5 = .ok (.iload_n 1, 1) := by decide +kernel
theorem dX0_takeIn_6 : decode cX0_takeIn 6 = .ok (.iadd, 1) := by decide +kernel
theorem dX0_takeIn_7 : decode cX0_takeIn 7 = .ok (.putfield 28, 3) := by decide +kernel
theorem dX0_takeIn_10 : decode cX0_takeIn 10 = .ok (.aload_n 0, 1) := by decide +kernel
theorem dX0_takeIn_11 : decode cX0_takeIn 11 = .ok (.dup, 1) := by decide +kernel
theorem dX0_takeIn_12 : decode cX0_takeIn 12 = .ok (.getfield 31, 3) := by decide +kernel
theorem dX0_takeIn_15 : decode cX0_takeIn 15 = .ok (.iload_n 1, 1) := by decide +kernel
theorem dX0_takeIn_16 : decode cX0_takeIn 16 = .ok (.iadd, 1) := by decide +kernel
theorem dX0_takeIn_17 : decode cX0_takeIn 17 = .ok (.putfield 31, 3) := by decide +kernel
theorem dX0_takeIn_20 : decode cX0_takeIn 20 = .ok (.return_, 1) := by decide +kernel
theorem dX1_init_0 : decode cX1_init 0 = .ok (.aload_n 0, 1) := by decide +kernel
theorem dX1_init_1 : decode cX1_init 1 = .ok (.invokespecial 3, 3) := by decide +kernel
theorem dX1_init_4 : decode cX1_init 4 = .ok (.return_, 1) := by decide +kernel
theorem dX1_faultOf_0 : decode cX1_faultOf 0 = .ok (.aload_n 0, 1) := by decide +kernel
theorem dX1_faultOf_1 : decode cX1_faultOf 1 = .ok (.iconst 0, 1) := by decide +kernel
theorem dX1_faultOf_2 : decode cX1_faultOf 2 = .ok (.putfield 11, 3) := by decide +kernel
theorem dX1_faultOf_5 : decode cX1_faultOf 5 = .ok (.aload_n 0, 1) := by decide +kernel
theorem dX1_faultOf_6 : decode cX1_faultOf 6 = .ok (.iconst 0, 1) := by decide +kernel
theorem dX1_faultOf_7 : decode cX1_faultOf 7 = .ok (.putfield 15, 3) := by decide +kernel
theorem dX1_faultOf_10 : decode cX1_faultOf 10 = .ok (.aload_n 0, 1) := by decide +kernel
theorem dX1_faultOf_11 : decode cX1_faultOf 11 = .ok (.iconst 0, 1) := by decide +kernel
theorem dX1_faultOf_12 : decode cX1_faultOf 12 = .ok (.putfield 18, 3) := by decide +kernel
theorem dX1_faultOf_15 : decode cX1_faultOf 15 = .ok (.iconst 0, 1) := by decide +kernel
theorem dX1_faultOf_16 : decode cX1_faultOf 16 = .ok (.istore_n 2, 1) := by decide +kernel
theorem dX1_faultOf_17 : decode cX1_faultOf 17 = .ok (.iload_n 2, 1) := by decide +kernel
theorem dX1_faultOf_18 : decode cX1_faultOf 18 = .ok (.aload_n 1, 1) := by decide +kernel
theorem dX1_faultOf_19 : decode cX1_faultOf 19 = .ok (.getfield 21, 3) := by decide +kernel
theorem dX1_faultOf_22 : decode cX1_faultOf 22 = .ok (.if_icmp .ge 23, 3) := by decide +kernel
theorem dX1_faultOf_25 : decode cX1_faultOf 25 = .ok (.aload_n 0, 1) := by decide +kernel
theorem dX1_faultOf_26 : decode cX1_faultOf 26 = .ok (.aload_n 1, 1) := by decide +kernel
theorem dX1_faultOf_27 : decode cX1_faultOf 27 = .ok (.iload_n 2, 1) := by decide +kernel
theorem dX1_faultOf_28 : decode cX1_faultOf 28 = .ok (.invokevirtual 26, 3) := by decide +kernel
theorem dX1_faultOf_31 : decode cX1_faultOf 31 = .ok (.invokevirtual 30, 3) := by decide +kernel
theorem dX1_faultOf_34 : decode cX1_faultOf 34 = .ok (.ifCond .ne 5, 3) := by decide +kernel
theorem dX1_faultOf_37 : decode cX1_faultOf 37 = .ok (.iload_n 2, 1) := by decide +kernel
theorem dX1_faultOf_38 : decode cX1_faultOf 38 = .ok (.ireturn, 1) := by decide +kernel
theorem dX1_faultOf_39 : decode cX1_faultOf 39 = .ok (.iinc 2 1, 3) := by decide +kernel
theorem dX1_faultOf_42 : decode cX1_faultOf 42 = .ok (.goto (-25), 3) := by decide +kernel
theorem dX1_faultOf_45 : decode cX1_faultOf 45 = .ok (.aload_n 0, 1) := by decide +kernel
theorem dX1_faultOf_46 : decode cX1_faultOf 46 = .ok (.getfield 11, 3) := by decide +kernel
theorem dX1_faultOf_49 : decode cX1_faultOf 49 = .ok (.iconst 3, 1) := by decide +kernel
theorem dX1_faultOf_50 : decode cX1_faultOf 50 = .ok (.if_icmp .ne 14, 3) := by decide +kernel
theorem dX1_faultOf_53 : decode cX1_faultOf 53 = .ok (.aload_n 0, 1) := by decide +kernel
theorem dX1_faultOf_54 : decode cX1_faultOf 54 = .ok (.getfield 15, 3) := by decide +kernel
theorem dX1_faultOf_57 : decode cX1_faultOf 57 = .ok (.ifCond .ne 7, 3) := by decide +kernel
theorem dX1_faultOf_60 : decode cX1_faultOf 60 = .ok (.iconst (-1), 1) := by decide +kernel
theorem dX1_faultOf_61 : decode cX1_faultOf 61 = .ok (.goto 7, 3) := by decide +kernel
theorem dX1_faultOf_64 : decode cX1_faultOf 64 = .ok (.aload_n 1, 1) := by decide +kernel
theorem dX1_faultOf_65 : decode cX1_faultOf 65 = .ok (.getfield 21, 3) := by decide +kernel
theorem dX1_faultOf_68 : decode cX1_faultOf 68 = .ok (.ireturn, 1) := by decide +kernel
theorem dX1_takes_0 : decode cX1_takes 0 = .ok (.iload_n 1, 1) := by decide +kernel
theorem dX1_takes_1 : decode cX1_takes 1 = .ok (.bipush 32, 2) := by decide +kernel
theorem dX1_takes_3 : decode cX1_takes 3 = .ok (.if_icmp .ne 10, 3) := by decide +kernel
theorem dX1_takes_6 : decode cX1_takes 6 = .ok (.aload_n 0, 1) := by decide +kernel
theorem dX1_takes_7 : decode cX1_takes 7 = .ok (.iconst 0, 1) := by decide +kernel
theorem dX1_takes_8 : decode cX1_takes 8 = .ok (.putfield 18, 3) := by decide +kernel
theorem dX1_takes_11 : decode cX1_takes 11 = .ok (.iconst 1, 1) := by decide +kernel
theorem dX1_takes_12 : decode cX1_takes 12 = .ok (.ireturn, 1) := by decide +kernel
theorem dX1_takes_13 : decode cX1_takes 13 = .ok (.aload_n 0, 1) := by decide +kernel
theorem dX1_takes_14 : decode cX1_takes 14 = .ok (.getfield 11, 3) := by decide +kernel
theorem dX1_takes_17 : decode cX1_takes 17 = .ok (.tableswitch 45 0 2 #[27, 33, 39], 27) := by decide +kernel
theorem dX1_takes_44 : decode cX1_takes 44 = .ok (.aload_n 0, 1) := by decide +kernel
theorem dX1_takes_45 : decode cX1_takes 45 = .ok (.iload_n 1, 1) := by decide +kernel
theorem dX1_takes_46 : decode cX1_takes 46 = .ok (.invokevirtual 34, 3) := by decide +kernel
theorem dX1_takes_49 : decode cX1_takes 49 = .ok (.ireturn, 1) := by decide +kernel
theorem dX1_takes_50 : decode cX1_takes 50 = .ok (.aload_n 0, 1) := by decide +kernel
theorem dX1_takes_51 : decode cX1_takes 51 = .ok (.iload_n 1, 1) := by decide +kernel
theorem dX1_takes_52 : decode cX1_takes 52 = .ok (.invokevirtual 37, 3) := by decide +kernel
theorem dX1_takes_55 : decode cX1_takes 55 = .ok (.ireturn, 1) := by decide +kernel
theorem dX1_takes_56 : decode cX1_takes 56 = .ok (.aload_n 0, 1) := by decide +kernel
theorem dX1_takes_57 : decode cX1_takes 57 = .ok (.iload_n 1, 1) := by decide +kernel
theorem dX1_takes_58 : decode cX1_takes 58 = .ok (.invokevirtual 40, 3) := by decide +kernel
theorem dX1_takes_61 : decode cX1_takes 61 = .ok (.ireturn, 1) := by decide +kernel
theorem dX1_takes_62 : decode cX1_takes 62 = .ok (.aload_n 0, 1) := by decide +kernel
theorem dX1_takes_63 : decode cX1_takes 63 = .ok (.iload_n 1, 1) := by decide +kernel
theorem dX1_takes_64 : decode cX1_takes 64 = .ok (.invokevirtual 43, 3) := by decide +kernel
theorem dX1_takes_67 : decode cX1_takes 67 = .ok (.ireturn, 1) := by decide +kernel
theorem dX1_takesUnit_0 : decode cX1_takesUnit 0 = .ok (.iload_n 1, 1) := by decide +kernel
theorem dX1_takesUnit_1 : decode cX1_takesUnit 1 = .ok (.bipush 40, 2) := by decide +kernel
theorem dX1_takesUnit_3 : decode cX1_takesUnit 3 = .ok (.if_icmp .ne 28, 3) := by decide +kernel
theorem dX1_takesUnit_6 : decode cX1_takesUnit 6 = .ok (.aload_n 0, 1) := by decide +kernel
theorem dX1_takesUnit_7 : decode cX1_takesUnit 7 = .ok (.dup, 1) := by decide +kernel
theorem dX1_takesUnit_8 : decode cX1_takesUnit 8 = .ok (.getfield 15, 3) := by decide +kernel
theorem dX1_takesUnit_11 : decode cX1_takesUnit 11 = .ok (.iconst 1, 1) := by decide +kernel
theorem dX1_takesUnit_12 : decode cX1_takesUnit 12 = .ok (.iadd, 1) := by decide +kernel
theorem dX1_takesUnit_13 : decode cX1_takesUnit 13 = .ok (.putfield 15, 3) := by decide +kernel
theorem dX1_takesUnit_16 : decode cX1_takesUnit 16 = .ok (.aload_n 0, 1) := by decide +kernel
theorem dX1_takesUnit_17 : decode cX1_takesUnit 17 = .ok (.getfield 15, 3) := by decide +kernel
theorem dX1_takesUnit_20 : decode cX1_takesUnit 20 = .ok (.bipush 8, 2) := by decide +kernel
theorem dX1_takesUnit_22 : decode cX1_takesUnit 22 = .ok (.if_icmp .gt 7, 3) := by decide +kernel
theorem dX1_takesUnit_25 : decode cX1_takesUnit 25 = .ok (.iconst 1, 1) := by decide +kernel
theorem dX1_takesUnit_26 : decode cX1_takesUnit 26 = .ok (.goto 4, 3) := by decide +kernel
theorem dX1_takesUnit_29 : decode cX1_takesUnit 29 = .ok (.iconst 0, 1) := by decide +kernel
theorem dX1_takesUnit_30 : decode cX1_takesUnit 30 = .ok (.ireturn, 1) := by decide +kernel
theorem dX1_takesUnit_31 : decode cX1_takesUnit 31 = .ok (.aload_n 0, 1) := by decide +kernel
theorem dX1_takesUnit_32 : decode cX1_takesUnit 32 = .ok (.iconst 1, 1) := by decide +kernel
theorem dX1_takesUnit_33 : decode cX1_takesUnit 33 = .ok (.putfield 11, 3) := by decide +kernel
theorem dX1_takesUnit_36 : decode cX1_takesUnit 36 = .ok (.iload_n 1, 1) := by decide +kernel
theorem dX1_takesUnit_37 : decode cX1_takesUnit 37 = .ok (.bipush 99, 2) := by decide +kernel
theorem dX1_takesUnit_39 : decode cX1_takesUnit 39 = .ok (.if_icmp .eq 27, 3) := by decide +kernel
theorem dX1_takesUnit_42 : decode cX1_takesUnit 42 = .ok (.iload_n 1, 1) := by decide +kernel
theorem dX1_takesUnit_43 : decode cX1_takesUnit 43 = .ok (.bipush 115, 2) := by decide +kernel
theorem dX1_takesUnit_45 : decode cX1_takesUnit 45 = .ok (.if_icmp .eq 21, 3) := by decide +kernel
theorem dX1_takesUnit_48 : decode cX1_takesUnit 48 = .ok (.iload_n 1, 1) := by decide +kernel
theorem dX1_takesUnit_49 : decode cX1_takesUnit 49 = .ok (.bipush 119, 2) := by decide +kernel
theorem dX1_takesUnit_51 : decode cX1_takesUnit 51 = .ok (.if_icmp .eq 15, 3) := by decide +kernel
theorem dX1_takesUnit_54 : decode cX1_takesUnit 54 = .ok (.iload_n 1, 1) := by decide +kernel
theorem dX1_takesUnit_55 : decode cX1_takesUnit 55 = .ok (.bipush 97, 2) := by decide +kernel
theorem dX1_takesUnit_57 : decode cX1_takesUnit 57 = .ok (.if_icmp .eq 9, 3) := by decide +kernel
theorem dX1_takesUnit_60 : decode cX1_takesUnit 60 = .ok (.iload_n 1, 1) := by decide +kernel
theorem dX1_takesUnit_61 : decode cX1_takesUnit 61 = .ok (.bipush 112, 2) := by decide +kernel
theorem dX1_takesUnit_63 : decode cX1_takesUnit 63 = .ok (.if_icmp .ne 7, 3) := by decide +kernel
theorem dX1_takesUnit_66 : decode cX1_takesUnit 66 = .ok (.iconst 1, 1) := by decide +kernel
theorem dX1_takesUnit_67 : decode cX1_takesUnit 67 = .ok (.goto 4, 3) := by decide +kernel
theorem dX1_takesUnit_70 : decode cX1_takesUnit 70 = .ok (.iconst 0, 1) := by decide +kernel
theorem dX1_takesUnit_71 : decode cX1_takesUnit 71 = .ok (.ireturn, 1) := by decide +kernel
theorem dX1_takesSign_0 : decode cX1_takesSign 0 = .ok (.aload_n 0, 1) := by decide +kernel
theorem dX1_takesSign_1 : decode cX1_takesSign 1 = .ok (.iconst 2, 1) := by decide +kernel
theorem dX1_takesSign_2 : decode cX1_takesSign 2 = .ok (.putfield 11, 3) := by decide +kernel
theorem dX1_takesSign_5 : decode cX1_takesSign 5 = .ok (.iload_n 1, 1) := by decide +kernel
theorem dX1_takesSign_6 : decode cX1_takesSign 6 = .ok (.bipush 61, 2) := by decide +kernel
theorem dX1_takesSign_8 : decode cX1_takesSign 8 = .ok (.if_icmp .eq 15, 3) := by decide +kernel
theorem dX1_takesSign_11 : decode cX1_takesSign 11 = .ok (.iload_n 1, 1) := by decide +kernel
theorem dX1_takesSign_12 : decode cX1_takesSign 12 = .ok (.bipush 60, 2) := by decide +kernel
theorem dX1_takesSign_14 : decode cX1_takesSign 14 = .ok (.if_icmp .eq 9, 3) := by decide +kernel
theorem dX1_takesSign_17 : decode cX1_takesSign 17 = .ok (.iload_n 1, 1) := by decide +kernel
theorem dX1_takesSign_18 : decode cX1_takesSign 18 = .ok (.bipush 62, 2) := by decide +kernel
theorem dX1_takesSign_20 : decode cX1_takesSign 20 = .ok (.if_icmp .ne 7, 3) := by decide +kernel
theorem dX1_takesSign_23 : decode cX1_takesSign 23 = .ok (.iconst 1, 1) := by decide +kernel
theorem dX1_takesSign_24 : decode cX1_takesSign 24 = .ok (.goto 4, 3) := by decide +kernel
theorem dX1_takesSign_27 : decode cX1_takesSign 27 = .ok (.iconst 0, 1) := by decide +kernel
theorem dX1_takesSign_28 : decode cX1_takesSign 28 = .ok (.ireturn, 1) := by decide +kernel
theorem dX1_takesFirstDigit_0 : decode cX1_takesFirstDigit 0 = .ok (.aload_n 0, 1) := by decide +kernel
theorem dX1_takesFirstDigit_1 : decode cX1_takesFirstDigit 1 = .ok (.iconst 3, 1) := by decide +kernel
theorem dX1_takesFirstDigit_2 : decode cX1_takesFirstDigit 2 = .ok (.putfield 11, 3) := by decide +kernel
theorem dX1_takesFirstDigit_5 : decode cX1_takesFirstDigit 5 = .ok (.aload_n 0, 1) := by decide +kernel
theorem dX1_takesFirstDigit_6 : decode cX1_takesFirstDigit 6 = .ok (.iconst 4, 1) := by decide +kernel
theorem dX1_takesFirstDigit_7 : decode cX1_takesFirstDigit 7 = .ok (.putfield 18, 3) := by decide +kernel
theorem dX1_takesFirstDigit_10 : decode cX1_takesFirstDigit 10 = .ok (.iload_n 1, 1) := by decide +kernel
theorem dX1_takesFirstDigit_11 : decode cX1_takesFirstDigit 11 = .ok (.invokestatic 46, 3) := by decide +kernel
theorem dX1_takesFirstDigit_14 : decode cX1_takesFirstDigit 14 = .ok (.ireturn, 1) := by decide +kernel
theorem dX1_takesBehindUnit_0 : decode cX1_takesBehindUnit 0 = .ok (.iload_n 1, 1) := by decide +kernel
theorem dX1_takesBehindUnit_1 : decode cX1_takesBehindUnit 1 = .ok (.invokestatic 46, 3) := by decide +kernel
theorem dX1_takesBehindUnit_4 : decode cX1_takesBehindUnit 4 = .ok (.ifCond .eq 26, 3) := by decide +kernel
theorem dX1_takesBehindUnit_7 : decode cX1_takesBehindUnit 7 = .ok (.aload_n 0, 1) := by decide +kernel
theorem dX1_takesBehindUnit_8 : decode cX1_takesBehindUnit 8 = .ok (.dup, 1) := by decide +kernel
theorem dX1_takesBehindUnit_9 : decode cX1_takesBehindUnit 9 = .ok (.getfield 18, 3) := by decide +kernel
theorem dX1_takesBehindUnit_12 : decode cX1_takesBehindUnit 12 = .ok (.iconst 1, 1) := by decide +kernel
theorem dX1_takesBehindUnit_13 : decode cX1_takesBehindUnit 13 = .ok (.isub, 1) := by decide +kernel
theorem dX1_takesBehindUnit_14 : decode cX1_takesBehindUnit 14 = .ok (.putfield 18, 3) := by decide +kernel
theorem dX1_takesBehindUnit_17 : decode cX1_takesBehindUnit 17 = .ok (.aload_n 0, 1) := by decide +kernel
theorem dX1_takesBehindUnit_18 : decode cX1_takesBehindUnit 18 = .ok (.getfield 18, 3) := by decide +kernel
theorem dX1_takesBehindUnit_21 : decode cX1_takesBehindUnit 21 = .ok (.ifCond .lt 7, 3) := by decide +kernel
theorem dX1_takesBehindUnit_24 : decode cX1_takesBehindUnit 24 = .ok (.iconst 1, 1) := by decide +kernel
theorem dX1_takesBehindUnit_25 : decode cX1_takesBehindUnit 25 = .ok (.goto 4, 3) := by decide +kernel
theorem dX1_takesBehindUnit_28 : decode cX1_takesBehindUnit 28 = .ok (.iconst 0, 1) := by decide +kernel
theorem dX1_takesBehindUnit_29 : decode cX1_takesBehindUnit 29 = .ok (.ireturn, 1) := by decide +kernel
theorem dX1_takesBehindUnit_30 : decode cX1_takesBehindUnit 30 = .ok (.aload_n 0, 1) := by decide +kernel
theorem dX1_takesBehindUnit_31 : decode cX1_takesBehindUnit 31 = .ok (.iconst 0, 1) := by decide +kernel
theorem dX1_takesBehindUnit_32 : decode cX1_takesBehindUnit 32 = .ok (.putfield 18, 3) := by decide +kernel
theorem dX1_takesBehindUnit_35 : decode cX1_takesBehindUnit 35 = .ok (.iload_n 1, 1) := by decide +kernel
theorem dX1_takesBehindUnit_36 : decode cX1_takesBehindUnit 36 = .ok (.bipush 41, 2) := by decide +kernel
theorem dX1_takesBehindUnit_38 : decode cX1_takesBehindUnit 38 = .ok (.if_icmp .ne 26, 3) := by decide +kernel
theorem dX1_takesBehindUnit_41 : decode cX1_takesBehindUnit 41 = .ok (.aload_n 0, 1) := by decide +kernel
theorem dX1_takesBehindUnit_42 : decode cX1_takesBehindUnit 42 = .ok (.dup, 1) := by decide +kernel
theorem dX1_takesBehindUnit_43 : decode cX1_takesBehindUnit 43 = .ok (.getfield 15, 3) := by decide +kernel
theorem dX1_takesBehindUnit_46 : decode cX1_takesBehindUnit 46 = .ok (.iconst 1, 1) := by decide +kernel
theorem dX1_takesBehindUnit_47 : decode cX1_takesBehindUnit 47 = .ok (.isub, 1) := by decide +kernel
theorem dX1_takesBehindUnit_48 : decode cX1_takesBehindUnit 48 = .ok (.putfield 15, 3) := by decide +kernel
theorem dX1_takesBehindUnit_51 : decode cX1_takesBehindUnit 51 = .ok (.aload_n 0, 1) := by decide +kernel
theorem dX1_takesBehindUnit_52 : decode cX1_takesBehindUnit 52 = .ok (.getfield 15, 3) := by decide +kernel
theorem dX1_takesBehindUnit_55 : decode cX1_takesBehindUnit 55 = .ok (.ifCond .lt 7, 3) := by decide +kernel
theorem dX1_takesBehindUnit_58 : decode cX1_takesBehindUnit 58 = .ok (.iconst 1, 1) := by decide +kernel
theorem dX1_takesBehindUnit_59 : decode cX1_takesBehindUnit 59 = .ok (.goto 4, 3) := by decide +kernel
theorem dX1_takesBehindUnit_62 : decode cX1_takesBehindUnit 62 = .ok (.iconst 0, 1) := by decide +kernel
theorem dX1_takesBehindUnit_63 : decode cX1_takesBehindUnit 63 = .ok (.ireturn, 1) := by decide +kernel
theorem dX1_takesBehindUnit_64 : decode cX1_takesBehindUnit 64 = .ok (.aload_n 0, 1) := by decide +kernel
theorem dX1_takesBehindUnit_65 : decode cX1_takesBehindUnit 65 = .ok (.iconst 0, 1) := by decide +kernel
theorem dX1_takesBehindUnit_66 : decode cX1_takesBehindUnit 66 = .ok (.putfield 11, 3) := by decide +kernel
theorem dX1_takesBehindUnit_69 : decode cX1_takesBehindUnit 69 = .ok (.iload_n 1, 1) := by decide +kernel
theorem dX1_takesBehindUnit_70 : decode cX1_takesBehindUnit 70 = .ok (.bipush 38, 2) := by decide +kernel
theorem dX1_takesBehindUnit_72 : decode cX1_takesBehindUnit 72 = .ok (.if_icmp .eq 9, 3) := by decide +kernel
theorem dX1_takesBehindUnit_75 : decode cX1_takesBehindUnit 75 = .ok (.iload_n 1, 1) := by decide +kernel
theorem dX1_takesBehindUnit_76 : decode cX1_takesBehindUnit 76 = .ok (.bipush 124, 2) := by decide +kernel
theorem dX1_takesBehindUnit_78 : decode cX1_takesBehindUnit 78 = .ok (.if_icmp .ne 7, 3) := by decide +kernel
theorem dX1_takesBehindUnit_81 : decode cX1_takesBehindUnit 81 = .ok (.iconst 1, 1) := by decide +kernel
theorem dX1_takesBehindUnit_82 : decode cX1_takesBehindUnit 82 = .ok (.goto 4, 3) := by decide +kernel
theorem dX1_takesBehindUnit_85 : decode cX1_takesBehindUnit 85 = .ok (.iconst 0, 1) := by decide +kernel
theorem dX1_takesBehindUnit_86 : decode cX1_takesBehindUnit 86 = .ok (.ireturn, 1) := by decide +kernel
theorem dX1_isDigit_0 : decode cX1_isDigit 0 = .ok (.iload_n 0, 1) := by decide +kernel
theorem dX1_isDigit_1 : decode cX1_isDigit 1 = .ok (.bipush 48, 2) := by decide +kernel
theorem dX1_isDigit_3 : decode cX1_isDigit 3 = .ok (.if_icmp .lt 13, 3) := by decide +kernel
theorem dX1_isDigit_6 : decode cX1_isDigit 6 = .ok (.iload_n 0, 1) := by decide +kernel
theorem dX1_isDigit_7 : decode cX1_isDigit 7 = .ok (.bipush 57, 2) := by decide +kernel
theorem dX1_isDigit_9 : decode cX1_isDigit 9 = .ok (.if_icmp .gt 7, 3) := by decide +kernel
theorem dX1_isDigit_12 : decode cX1_isDigit 12 = .ok (.iconst 1, 1) := by decide +kernel
theorem dX1_isDigit_13 : decode cX1_isDigit 13 = .ok (.goto 4, 3) := by decide +kernel
theorem dX1_isDigit_16 : decode cX1_isDigit 16 = .ok (.iconst 0, 1) := by decide +kernel
theorem dX1_isDigit_17 : decode cX1_isDigit 17 = .ok (.ireturn, 1) := by decide +kernel
theorem dX2_init_0 : decode cX2_init 0 = .ok (.aload_n 0, 1) := by decide +kernel
theorem dX2_init_1 : decode cX2_init 1 = .ok (.invokespecial 3, 3) := by decide +kernel
theorem dX2_init_4 : decode cX2_init 4 = .ok (.aload_n 0, 1) := by decide +kernel
theorem dX2_init_5 : decode cX2_init 5 = .ok (.iload_n 1, 1) := by decide +kernel
theorem dX2_init_6 : decode cX2_init 6 = .ok (.putfield 9, 3) := by decide +kernel
theorem dX2_init_9 : decode cX2_init 9 = .ok (.aload_n 0, 1) := by decide +kernel
theorem dX2_init_10 : decode cX2_init 10 = .ok (.iload_n 2, 1) := by decide +kernel
theorem dX2_init_11 : decode cX2_init 11 = .ok (.putfield 15, 3) := by decide +kernel
theorem dX2_init_14 : decode cX2_init 14 = .ok (.aload_n 0, 1) := by decide +kernel
theorem dX2_init_15 : decode cX2_init 15 = .ok (.iload_n 3, 1) := by decide +kernel
theorem dX2_init_16 : decode cX2_init 16 = .ok (.putfield 18, 3) := by decide +kernel
theorem dX2_init_19 : decode cX2_init 19 = .ok (.aload_n 0, 1) := by decide +kernel
theorem dX2_init_20 : decode cX2_init 20 = .ok (.iload 4, 2) := by decide +kernel
theorem dX2_init_22 : decode cX2_init 22 = .ok (.putfield 21, 3) := by decide +kernel
theorem dX2_init_25 : decode cX2_init 25 = .ok (.aload_n 0, 1) := by decide +kernel
theorem dX2_init_26 : decode cX2_init 26 = .ok (.iload 5, 2) := by decide +kernel
theorem dX2_init_28 : decode cX2_init 28 = .ok (.putfield 24, 3) := by decide +kernel
theorem dX2_init_31 : decode cX2_init 31 = .ok (.aload_n 0, 1) := by decide +kernel
theorem dX2_init_32 : decode cX2_init 32 = .ok (.iload 6, 2) := by decide +kernel
theorem dX2_init_34 : decode cX2_init 34 = .ok (.putfield 27, 3) := by decide +kernel
theorem dX2_init_37 : decode cX2_init 37 = .ok (.aload_n 0, 1) := by decide +kernel
theorem dX2_init_38 : decode cX2_init 38 = .ok (.iload 7, 2) := by decide +kernel
theorem dX2_init_40 : decode cX2_init 40 = .ok (.putfield 30, 3) := by decide +kernel
theorem dX2_init_43 : decode cX2_init 43 = .ok (.return_, 1) := by decide +kernel
theorem dX2_cureOne_0 : decode cX2_cureOne 0 = .ok (.aload_n 0, 1) := by decide +kernel
theorem dX2_cureOne_1 : decode cX2_cureOne 1 = .ok (.dup, 1) := by decide +kernel
theorem dX2_cureOne_2 : decode cX2_cureOne 2 = .ok (.getfield 33, 3) := by decide +kernel
theorem dX2_cureOne_5 : decode cX2_cureOne 5 = .ok (.iconst 1, 1) := by decide +kernel
theorem dX2_cureOne_6 : decode cX2_cureOne 6 = .ok (.iadd, 1) := by decide +kernel
theorem dX2_cureOne_7 : decode cX2_cureOne 7 = .ok (.putfield 33, 3) := by decide +kernel
theorem dX2_cureOne_10 : decode cX2_cureOne 10 = .ok (.aload_n 0, 1) := by decide +kernel
theorem dX2_cureOne_11 : decode cX2_cureOne 11 = .ok (.aload_n 0, 1) := by decide +kernel
theorem dX2_cureOne_12 : decode cX2_cureOne 12 = .ok (.getfield 36, 3) := by decide +kernel
theorem dX2_cureOne_15 : decode cX2_cureOne 15 = .ok (.iload_n 1, 1) := by decide +kernel
theorem dX2_cureOne_16 : decode cX2_cureOne 16 = .ok (.aload_n 0, 1) := by decide +kernel
theorem dX2_cureOne_17 : decode cX2_cureOne 17 = .ok (.getfield 27, 3) := by decide +kernel
theorem dX2_cureOne_20 : decode cX2_cureOne 20 = .ok (.isub, 1) := by decide +kernel
theorem dX2_cureOne_21 : decode cX2_cureOne 21 = .ok (.invokestatic 39, 3) := by decide +kernel
theorem dX2_cureOne_24 : decode cX2_cureOne 24 = .ok (.putfield 36, 3) := by decide +kernel
theorem dX2_cureOne_27 : decode cX2_cureOne 27 = .ok (.aload_n 0, 1) := by decide +kernel
theorem dX2_cureOne_28 : decode cX2_cureOne 28 = .ok (.aload_n 0, 1) := by decide +kernel
theorem dX2_cureOne_29 : decode cX2_cureOne 29 = .ok (.getfield 45, 3) := by decide +kernel
theorem dX2_cureOne_32 : decode cX2_cureOne 32 = .ok (.iload_n 1, 1) := by decide +kernel
theorem dX2_cureOne_33 : decode cX2_cureOne 33 = .ok (.bipush 12, 2) := by decide +kernel
theorem dX2_cureOne_35 : decode cX2_cureOne 35 = .ok (.iadd, 1) := by decide +kernel
theorem dX2_cureOne_36 : decode cX2_cureOne 36 = .ok (.invokestatic 39, 3) := by decide +kernel
theorem dX2_cureOne_39 : decode cX2_cureOne 39 = .ok (.putfield 45, 3) := by decide +kernel
theorem dX2_cureOne_42 : decode cX2_cureOne 42 = .ok (.return_, 1) := by decide +kernel
theorem dX2_measure_0 : decode cX2_measure 0 = .ok (.iload_n 1, 1) := by decide +kernel
theorem dX2_measure_1 : decode cX2_measure 1 = .ok (.lookupswitch 78 #[(97, 66), (99, 51), (112, 73), (115, 56), (119, 61)], 51) := by decide +kernel
theorem dX2_measure_52 : decode cX2_measure 52 = .ok (.aload_n 0, 1) := by decide +kernel
theorem dX2_measure_53 : decode cX2_measure 53 = .ok (.getfield 33, 3) := by decide +kernel
theorem dX2_measure_56 : decode cX2_measure 56 = .ok (.ireturn, 1) := by decide +kernel
theorem dX2_measure_57 : decode cX2_measure 57 = .ok (.aload_n 0, 1) := by decide +kernel
theorem dX2_measure_58 : decode cX2_measure 58 = .ok (.getfield 48, 3) := by decide +kernel
theorem dX2_measure_61 : decode cX2_measure 61 = .ok (.ireturn, 1) := by decide +kernel
theorem dX2_measure_62 : decode cX2_measure 62 = .ok (.aload_n 0, 1) := by decide +kernel
theorem dX2_measure_63 : decode cX2_measure 63 = .ok (.getfield 36, 3) := by decide +kernel
theorem dX2_measure_66 : decode cX2_measure 66 = .ok (.ireturn, 1) := by decide +kernel
theorem dX2_measure_67 : decode cX2_measure 67 = .ok (.iload_n 2, 1) := by decide +kernel
theorem dX2_measure_68 : decode cX2_measure 68 = .ok (.aload_n 0, 1) := by decide +kernel
theorem dX2_measure_69 : decode cX2_measure 69 = .ok (.getfield 9, 3) := by decide +kernel
theorem dX2_measure_72 : decode cX2_measure 72 = .ok (.isub, 1) := by decide +kernel
theorem dX2_measure_73 : decode cX2_measure 73 = .ok (.ireturn, 1) := by decide +kernel
theorem dX2_measure_74 : decode cX2_measure 74 = .ok (.aload_n 0, 1) := by decide +kernel
theorem dX2_measure_75 : decode cX2_measure 75 = .ok (.getfield 30, 3) := by decide +kernel
theorem dX2_measure_78 : decode cX2_measure 78 = .ok (.ireturn, 1) := by decide +kernel
theorem dX2_measure_79 : decode cX2_measure 79 = .ok (.iconst 0, 1) := by decide +kernel
theorem dX2_measure_80 : decode cX2_measure 80 = .ok (.ireturn, 1) := by decide +kernel
theorem dX3_init_0 : decode cX3_init 0 = .ok (.aload_n 0, 1) := by decide +kernel
theorem dX3_init_1 : decode cX3_init 1 = .ok (.invokespecial 3, 3) := by decide +kernel
theorem dX3_init_4 : decode cX3_init 4 = .ok (.aload_n 0, 1) := by decide +kernel
theorem dX3_init_5 : decode cX3_init 5 = .ok (.bipush 12, 2) := by decide +kernel
theorem dX3_init_7 : decode cX3_init 7 = .ok (.newarray .int, 2) := by decide +kernel
theorem dX3_init_9 : decode cX3_init 9 = .ok (.putfield 9, 3) := by decide +kernel
theorem dX3_init_12 : decode cX3_init 12 = .ok (.aload_n 0, 1) := by decide +kernel
theorem dX3_init_13 : decode cX3_init 13 = .ok (.bipush 12, 2) := by decide +kernel
theorem dX3_init_15 : decode cX3_init 15 = .ok (.newarray .int, 2) := by decide +kernel
theorem dX3_init_17 : decode cX3_init 17 = .ok (.putfield 15, 3) := by decide +kernel
theorem dX3_init_20 : decode cX3_init 20 = .ok (.aload_n 0, 1) := by decide +kernel
theorem dX3_init_21 : decode cX3_init 21 = .ok (.bipush 12, 2) := by decide +kernel
theorem dX3_init_23 : decode cX3_init 23 = .ok (.newarray .int, 2) := by decide +kernel
theorem dX3_init_25 : decode cX3_init 25 = .ok (.putfield 18, 3) := by decide +kernel
theorem dX3_init_28 : decode cX3_init 28 = .ok (.return_, 1) := by decide +kernel
theorem dX3_clear_0 : decode cX3_clear 0 = .ok (.aload_n 0, 1) := by decide +kernel
theorem dX3_clear_1 : decode cX3_clear 1 = .ok (.iconst 0, 1) := by decide +kernel
theorem dX3_clear_2 : decode cX3_clear 2 = .ok (.putfield 21, 3) := by decide +kernel
theorem dX3_clear_5 : decode cX3_clear 5 = .ok (.iconst 0, 1) := by decide +kernel
theorem dX3_clear_6 : decode cX3_clear 6 = .ok (.istore_n 1, 1) := by decide +kernel
theorem dX3_clear_7 : decode cX3_clear 7 = .ok (.iload_n 1, 1) := by decide +kernel
theorem dX3_clear_8 : decode cX3_clear 8 = .ok (.bipush 12, 2) := by decide +kernel
theorem dX3_clear_10 : decode cX3_clear 10 = .ok (.if_icmp .ge 23, 3) := by decide +kernel
theorem dX3_clear_13 : decode cX3_clear 13 = .ok (.aload_n 0, 1) := by decide +kernel
theorem dX3_clear_14 : decode cX3_clear 14 = .ok (.getfield 15, 3) := by decide +kernel
theorem dX3_clear_17 : decode cX3_clear 17 = .ok (.iload_n 1, 1) := by decide +kernel
theorem dX3_clear_18 : decode cX3_clear 18 = .ok (.iconst 0, 1) := by decide +kernel
theorem dX3_clear_19 : decode cX3_clear 19 = .ok (.iastore, 1) := by decide +kernel
theorem dX3_clear_20 : decode cX3_clear 20 = .ok (.aload_n 0, 1) := by decide +kernel
theorem dX3_clear_21 : decode cX3_clear 21 = .ok (.getfield 9, 3) := by decide +kernel
theorem dX3_clear_24 : decode cX3_clear 24 = .ok (.iload_n 1, 1) := by decide +kernel
theorem dX3_clear_25 : decode cX3_clear 25 = .ok (.iconst 0, 1) := by decide +kernel
theorem dX3_clear_26 : decode cX3_clear 26 = .ok (.iastore, 1) := by decide +kernel
theorem dX3_clear_27 : decode cX3_clear 27 = .ok (.iinc 1 1, 3) := by decide +kernel
theorem dX3_clear_30 : decode cX3_clear 30 = .ok (.goto (-23), 3) := by decide +kernel
theorem dX3_clear_33 : decode cX3_clear 33 = .ok (.return_, 1) := by decide +kernel
theorem dX3_addMeasure_0 : decode cX3_addMeasure 0 = .ok (.iload_n 1, 1) := by decide +kernel
theorem dX3_addMeasure_1 : decode cX3_addMeasure 1 = .ok (.ifCond .lt 26, 3) := by decide +kernel
theorem dX3_addMeasure_4 : decode cX3_addMeasure 4 = .ok (.iload_n 1, 1) := by decide +kernel
theorem dX3_addMeasure_5 : decode cX3_addMeasure 5 = .ok (.bipush 12, 2) := by decide +kernel
theorem dX3_addMeasure_7 : decode cX3_addMeasure 7 = .ok (.if_icmp .ge 20, 3) := by decide +kernel
theorem dX3_addMeasure_10 : decode cX3_addMeasure 10 = .ok (.aload_n 0, 1) := by decide +kernel
theorem dX3_addMeasure_11 : decode cX3_addMeasure 11 = .ok (.getfield 15, 3) := by decide +kernel
theorem dX3_addMeasure_14 : decode cX3_addMeasure 14 = .ok (.iload_n 1, 1) := by decide +kernel
theorem dX3_addMeasure_15 : decode cX3_addMeasure 15 = .ok (.iload_n 2, 1) := by decide +kernel
theorem dX3_addMeasure_16 : decode cX3_addMeasure 16 = .ok (.iastore, 1) := by decide +kernel
theorem dX3_addMeasure_17 : decode cX3_addMeasure 17 = .ok (.aload_n 0, 1) := by decide +kernel
theorem dX3_addMeasure_18 : decode cX3_addMeasure 18 = .ok (.dup, 1) := by decide +kernel
theorem dX3_addMeasure_19 : decode cX3_addMeasure 19 = .ok (.getfield 21, 3) := by decide +kernel
theorem dX3_addMeasure_22 : decode cX3_addMeasure 22 = .ok (.iload_n 2, 1) := by decide +kernel
theorem dX3_addMeasure_23 : decode cX3_addMeasure 23 = .ok (.iadd, 1) := by decide +kernel
theorem dX3_addMeasure_24 : decode cX3_addMeasure 24 = .ok (.putfield 21, 3) := by decide +kernel
theorem dX3_addMeasure_27 : decode cX3_addMeasure 27 = .ok (.return_, 1) := by decide +kernel
theorem dX3_part_0 : decode cX3_part 0 = .ok (.aload_n 0, 1) := by decide +kernel
theorem dX3_part_1 : decode cX3_part 1 = .ok (.getfield 21, 3) := by decide +kernel
theorem dX3_part_4 : decode cX3_part 4 = .ok (.ifCond .gt 4, 3) := by decide +kernel
theorem dX3_part_7 : decode cX3_part 7 = .ok (.return_, 1) := by decide +kernel
theorem dX3_part_8 : decode cX3_part 8 = .ok (.iload_n 1, 1) := by decide +kernel
theorem dX3_part_9 : decode cX3_part 9 = .ok (.istore_n 2, 1) := by decide +kernel
theorem dX3_part_10 : decode cX3_part 10 = .ok (.iconst 0, 1) := by decide +kernel
theorem dX3_part_11 : decode cX3_part 11 = .ok (.istore_n 3, 1) := by decide +kernel
theorem dX3_part_12 : decode cX3_part 12 = .ok (.iload_n 3, 1) := by decide +kernel
theorem dX3_part_13 : decode cX3_part 13 = .ok (.bipush 12, 2) := by decide +kernel
theorem dX3_part_15 : decode cX3_part 15 = .ok (.if_icmp .ge 60, 3) := by decide +kernel
theorem dX3_part_18 : decode cX3_part 18 = .ok (.iload_n 1, 1) := by decide +kernel
theorem dX3_part_19 : decode cX3_part 19 = .ok (.i2l, 1) := by decide +kernel
theorem dX3_part_20 : decode cX3_part 20 = .ok (.aload_n 0, 1) := by decide +kernel
theorem dX3_part_21 : decode cX3_part 21 = .ok (.getfield 15, 3) := by decide +kernel
theorem dX3_part_24 : decode cX3_part 24 = .ok (.iload_n 3, 1) := by decide +kernel
theorem dX3_part_25 : decode cX3_part 25 = .ok (.iaload, 1) := by decide +kernel
theorem dX3_part_26 : decode cX3_part 26 = .ok (.i2l, 1) := by decide +kernel
theorem dX3_part_27 : decode cX3_part 27 = .ok (.lmul, 1) := by decide +kernel
theorem dX3_part_28 : decode cX3_part 28 = .ok (.lstore 4, 2) := by decide +kernel
theorem dX3_part_30 : decode cX3_part 30 = .ok (.aload_n 0, 1) := by decide +kernel
theorem dX3_part_31 : decode cX3_part 31 = .ok (.getfield 9, 3) := by decide +kernel
theorem dX3_part_34 : decode cX3_part 34 = .ok (.iload_n 3, 1) := by decide +kernel
theorem dX3_part_35 : decode cX3_part 35 = .ok (.lload 4, 2) := by decide +kernel
theorem dX3_part_37 : decode cX3_part 37 = .ok (.aload_n 0, 1) := by decide +kernel
theorem dX3_part_38 : decode cX3_part 38 = .ok (.getfield 21, 3) := by decide +kernel
theorem dX3_part_41 : decode cX3_part 41 = .ok (.i2l, 1) := by decide +kernel
theorem dX3_part_42 : decode cX3_part 42 = .ok (.ldiv, 1) := by decide +kernel
theorem dX3_part_43 : decode cX3_part 43 = .ok (.l2i, 1) := by decide +kernel
theorem dX3_part_44 : decode cX3_part 44 = .ok (.iastore, 1) := by decide +kernel
theorem dX3_part_45 : decode cX3_part 45 = .ok (.aload_n 0, 1) := by decide +kernel
theorem dX3_part_46 : decode cX3_part 46 = .ok (.getfield 18, 3) := by decide +kernel
theorem dX3_part_49 : decode cX3_part 49 = .ok (.iload_n 3, 1) := by decide +kernel
theorem dX3_part_50 : decode cX3_part 50 = .ok (.lload 4, 2) := by decide +kernel
theorem dX3_part_52 : decode cX3_part 52 = .ok (.aload_n 0, 1) := by decide +kernel
theorem dX3_part_53 : decode cX3_part 53 = .ok (.getfield 21, 3) := by decide +kernel
theorem dX3_part_56 : decode cX3_part 56 = .ok (.i2l, 1) := by decide +kernel
theorem dX3_part_57 : decode cX3_part 57 = .ok (.lrem, 1) := by decide +kernel
theorem dX3_part_58 : decode cX3_part 58 = .ok (.l2i, 1) := by decide +kernel
theorem dX3_part_59 : decode cX3_part 59 = .ok (.iastore, 1) := by decide +kernel
theorem dX3_part_60 : decode cX3_part 60 = .ok (.iload_n 2, 1) := by decide +kernel
theorem dX3_part_61 : decode cX3_part 61 = .ok (.aload_n 0, 1) := by decide +kernel
theorem dX3_part_62 : decode cX3_part 62 = .ok (.getfield 9, 3) := by decide +kernel
theorem dX3_part_65 : decode cX3_part 65 = .ok (.iload_n 3, 1) := by decide +kernel
theorem dX3_part_66 : decode cX3_part 66 = .ok (.iaload, 1) := by decide +kernel
theorem dX3_part_67 : decode cX3_part 67 = .ok (.isub, 1) := by decide +kernel
theorem dX3_part_68 : decode cX3_part 68 = .ok (.istore_n 2, 1) := by decide +kernel
theorem dX3_part_69 : decode cX3_part 69 = .ok (.iinc 3 1, 3) := by decide +kernel
theorem dX3_part_72 : decode cX3_part 72 = .ok (.goto (-60), 3) := by decide +kernel
theorem dX3_part_75 : decode cX3_part 75 = .ok (.iconst 0, 1) := by decide +kernel
theorem dX3_part_76 : decode cX3_part 76 = .ok (.istore_n 3, 1) := by decide +kernel
theorem dX3_part_77 : decode cX3_part 77 = .ok (.iload_n 3, 1) := by decide +kernel
theorem dX3_part_78 : decode cX3_part 78 = .ok (.iload_n 2, 1) := by decide +kernel
theorem dX3_part_79 : decode cX3_part 79 = .ok (.if_icmp .ge 40, 3) := by decide +kernel
theorem dX3_part_82 : decode cX3_part 82 = .ok (.iload_n 3, 1) := by decide +kernel
theorem dX3_part_83 : decode cX3_part 83 = .ok (.bipush 12, 2) := by decide +kernel
theorem dX3_part_85 : decode cX3_part 85 = .ok (.if_icmp .ge 34, 3) := by decide +kernel
theorem dX3_part_88 : decode cX3_part 88 = .ok (.aload_n 0, 1) := by decide +kernel
theorem dX3_part_89 : decode cX3_part 89 = .ok (.invokevirtual 25, 3) := by decide +kernel
theorem dX3_part_92 : decode cX3_part 92 = .ok (.istore 4, 2) := by decide +kernel
theorem dX3_part_94 : decode cX3_part 94 = .ok (.aload_n 0, 1) := by decide +kernel
theorem dX3_part_95 : decode cX3_part 95 = .ok (.getfield 9, 3) := by decide +kernel
theorem dX3_part_98 : decode cX3_part 98 = .ok (.iload 4, 2) := by decide +kernel
theorem dX3_part_100 : decode cX3_part 100 = .ok (.dup2, 1) := by decide +kernel
theorem dX3_part_101 : decode cX3_part 101 = .ok (.iaload, 1) := by decide +kernel
theorem dX3_part_102 : decode cX3_part 102 = .ok (.iconst 1, 1) := by decide +kernel
theorem dX3_part_103 : decode cX3_part 103 = .ok (.iadd, 1) := by decide +kernel
theorem dX3_part_104 : decode cX3_part 104 = .ok (.iastore, 1) := by decide +kernel
theorem dX3_part_105 : decode cX3_part 105 = .ok (.aload_n 0, 1) := by decide +kernel
theorem dX3_part_106 : decode cX3_part 106 = .ok (.getfield 18, 3) := by decide +kernel
theorem dX3_part_109 : decode cX3_part 109 = .ok (.iload 4, 2) := by decide +kernel
theorem dX3_part_111 : decode cX3_part 111 = .ok (.iconst 0, 1) := by decide +kernel
theorem dX3_part_112 : decode cX3_part 112 = .ok (.iastore, 1) := by decide +kernel
theorem dX3_part_113 : decode cX3_part 113 = .ok (.iinc 3 1, 3) := by decide +kernel
theorem dX3_part_116 : decode cX3_part 116 = .ok (.goto (-39), 3) := by decide +kernel
theorem dX3_part_119 : decode cX3_part 119 = .ok (.return_, 1) := by decide +kernel
theorem dX3_greatestRest_0 : decode cX3_greatestRest 0 = .ok (.iconst 0, 1) := by decide +kernel
theorem dX3_greatestRest_1 : decode cX3_greatestRest 1 = .ok (.istore_n 1, 1) := by decide +kernel
theorem dX3_greatestRest_2 : decode cX3_greatestRest 2 = .ok (.iconst 1, 1) := by decide +kernel
theorem dX3_greatestRest_3 : decode cX3_greatestRest 3 = .ok (.istore_n 2, 1) := by decide +kernel
theorem dX3_greatestRest_4 : decode cX3_greatestRest 4 = .ok (.iload_n 2, 1) := by decide +kernel
theorem dX3_greatestRest_5 : decode cX3_greatestRest 5 = .ok (.bipush 12, 2) := by decide +kernel
theorem dX3_greatestRest_7 : decode cX3_greatestRest 7 = .ok (.if_icmp .ge 26, 3) := by decide +kernel
theorem dX3_greatestRest_10 : decode cX3_greatestRest 10 = .ok (.aload_n 0, 1) := by decide +kernel
theorem dX3_greatestRest_11 : decode cX3_greatestRest 11 = .ok (.getfield 18, 3) := by decide +kernel
theorem dX3_greatestRest_14 : decode cX3_greatestRest 14 = .ok (.iload_n 2, 1) := by decide +kernel
theorem dX3_greatestRest_15 : decode cX3_greatestRest 15 = .ok (.iaload, 1) := by decide +kernel
theorem dX3_greatestRest_16 : decode cX3_greatestRest 16 = .ok (.aload_n 0, 1) := by decide +kernel
theorem dX3_greatestRest_17 : decode cX3_greatestRest 17 = .ok (.getfield 18, 3) := by decide +kernel
theorem dX3_greatestRest_20 : decode cX3_greatestRest 20 = .ok (.iload_n 1, 1) := by decide +kernel
theorem dX3_greatestRest_21 : decode cX3_greatestRest 21 = .ok (.iaload, 1) := by decide +kernel
theorem dX3_greatestRest_22 : decode cX3_greatestRest 22 = .ok (.if_icmp .le 5, 3) := by decide +kernel
theorem dX3_greatestRest_25 : decode cX3_greatestRest 25 = .ok (.iload_n 2, 1) := by decide +kernel
theorem dX3_greatestRest_26 : decode cX3_greatestRest 26 = .ok (.istore_n 1, 1) := by decide +kernel
theorem dX3_greatestRest_27 : decode cX3_greatestRest 27 = .ok (.iinc 2 1, 3) := by decide +kernel
theorem dX3_greatestRest_30 : decode cX3_greatestRest 30 = .ok (.goto (-26), 3) := by decide +kernel
theorem dX3_greatestRest_33 : decode cX3_greatestRest 33 = .ok (.iload_n 1, 1) := by decide +kernel
theorem dX3_greatestRest_34 : decode cX3_greatestRest 34 = .ok (.ireturn, 1) := by decide +kernel
theorem dX4_init_0 : decode cX4_init 0 = .ok (.aload_n 0, 1) := by decide +kernel
theorem dX4_init_1 : decode cX4_init 1 = .ok (.invokespecial 3, 3) := by decide +kernel
theorem dX4_init_4 : decode cX4_init 4 = .ok (.aload_n 0, 1) := by decide +kernel
theorem dX4_init_5 : decode cX4_init 5 = .ok (.bipush 36, 2) := by decide +kernel
theorem dX4_init_7 : decode cX4_init 7 = .ok (.newarray .int, 2) := by decide +kernel
theorem dX4_init_9 : decode cX4_init 9 = .ok (.putfield 9, 3) := by decide +kernel
theorem dX4_init_12 : decode cX4_init 12 = .ok (.aload_n 0, 1) := by decide +kernel
theorem dX4_init_13 : decode cX4_init 13 = .ok (.bipush 36, 2) := by decide +kernel
theorem dX4_init_15 : decode cX4_init 15 = .ok (.newarray .boolean, 2) := by decide +kernel
theorem dX4_init_17 : decode cX4_init 17 = .ok (.putfield 15, 3) := by decide +kernel
theorem dX4_init_20 : decode cX4_init 20 = .ok (.aload_n 0, 1) := by decide +kernel
theorem dX4_init_21 : decode cX4_init 21 = .ok (.bipush 36, 2) := by decide +kernel
theorem dX4_init_23 : decode cX4_init 23 = .ok (.newarray .int, 2) := by decide +kernel
theorem dX4_init_25 : decode cX4_init 25 = .ok (.putfield 19, 3) := by decide +kernel
theorem dX4_init_28 : decode cX4_init 28 = .ok (.return_, 1) := by decide +kernel
theorem dX4_isCell_0 : decode cX4_isCell 0 = .ok (.iload_n 0, 1) := by decide +kernel
theorem dX4_isCell_1 : decode cX4_isCell 1 = .ok (.ifCond .lt 13, 3) := by decide +kernel
theorem dX4_isCell_4 : decode cX4_isCell 4 = .ok (.iload_n 0, 1) := by decide +kernel
theorem dX4_isCell_5 : decode cX4_isCell 5 = .ok (.bipush 36, 2) := by decide +kernel
theorem dX4_isCell_7 : decode cX4_isCell 7 = .ok (.if_icmp .ge 7, 3) := by decide +kernel
theorem dX4_isCell_10 : decode cX4_isCell 10 = .ok (.iconst 1, 1) := by decide +kernel
theorem dX4_isCell_11 : decode cX4_isCell 11 = .ok (.goto 4, 3) := by decide +kernel
theorem dX4_isCell_14 : decode cX4_isCell 14 = .ok (.iconst 0, 1) := by decide +kernel
theorem dX4_isCell_15 : decode cX4_isCell 15 = .ok (.ireturn, 1) := by decide +kernel
theorem dX4_stepsFrom_0 : decode cX4_stepsFrom 0 = .ok (.iload_n 0, 1) := by decide +kernel
theorem dX4_stepsFrom_1 : decode cX4_stepsFrom 1 = .ok (.invokestatic 22, 3) := by decide +kernel
theorem dX4_stepsFrom_4 : decode cX4_stepsFrom 4 = .ok (.ifCond .eq 15, 3) := by decide +kernel
theorem dX4_stepsFrom_7 : decode cX4_stepsFrom 7 = .ok (.iload_n 0, 1) := by decide +kernel
theorem dX4_stepsFrom_8 : decode cX4_stepsFrom 8 = .ok (.bipush 6, 2) := by decide +kernel
theorem dX4_stepsFrom_10 : decode cX4_stepsFrom 10 = .ok (.irem, 1) := by decide +kernel
theorem dX4_stepsFrom_11 : decode cX4_stepsFrom 11 = .ok (.iload_n 0, 1) := by decide +kernel
theorem dX4_stepsFrom_12 : decode cX4_stepsFrom 12 = .ok (.bipush 6, 2) := by decide +kernel
theorem dX4_stepsFrom_14 : decode cX4_stepsFrom 14 = .ok (.idiv, 1) := by decide +kernel
theorem dX4_stepsFrom_15 : decode cX4_stepsFrom 15 = .ok (.iadd, 1) := by decide +kernel
theorem dX4_stepsFrom_16 : decode cX4_stepsFrom 16 = .ok (.goto 4, 3) := by decide +kernel
theorem dX4_stepsFrom_19 : decode cX4_stepsFrom 19 = .ok (.iconst (-1), 1) := by decide +kernel
theorem dX4_stepsFrom_20 : decode cX4_stepsFrom 20 = .ok (.ireturn, 1) := by decide +kernel
theorem dX4_nextCell_0 : decode cX4_nextCell 0 = .ok (.iload_n 0, 1) := by decide +kernel
theorem dX4_nextCell_1 : decode cX4_nextCell 1 = .ok (.bipush 6, 2) := by decide +kernel
theorem dX4_nextCell_3 : decode cX4_nextCell 3 = .ok (.irem, 1) := by decide +kernel
theorem dX4_nextCell_4 : decode cX4_nextCell 4 = .ok (.istore_n 2, 1) := by decide +kernel
theorem dX4_nextCell_5 : decode cX4_nextCell 5 = .ok (.iload_n 0, 1) := by decide +kernel
theorem dX4_nextCell_6 : decode cX4_nextCell 6 = .ok (.bipush 6, 2) := by decide +kernel
theorem dX4_nextCell_8 : decode cX4_nextCell 8 = .ok (.idiv, 1) := by decide +kernel
theorem dX4_nextCell_9 : decode cX4_nextCell 9 = .ok (.istore_n 3, 1) := by decide +kernel
theorem dX4_nextCell_10 : decode cX4_nextCell 10 = .ok (.iload_n 1, 1) := by decide +kernel
theorem dX4_nextCell_11 : decode cX4_nextCell 11 = .ok (.tableswitch 81 1 4 #[29, 42, 54, 68], 29) := by decide +kernel
theorem dX4_nextCell_40 : decode cX4_nextCell 40 = .ok (.iload_n 2, 1) := by decide +kernel
theorem dX4_nextCell_41 : decode cX4_nextCell 41 = .ok (.iconst 5, 1) := by decide +kernel
theorem dX4_nextCell_42 : decode cX4_nextCell 42 = .ok (.if_icmp .ge 9, 3) := by decide +kernel
theorem dX4_nextCell_45 : decode cX4_nextCell 45 = .ok (.iload_n 0, 1) := by decide +kernel
theorem dX4_nextCell_46 : decode cX4_nextCell 46 = .ok (.iconst 1, 1) := by decide +kernel
theorem dX4_nextCell_47 : decode cX4_nextCell 47 = .ok (.iadd, 1) := by decide +kernel
theorem dX4_nextCell_48 : decode cX4_nextCell 48 = .ok (.goto 4, 3) := by decide +kernel
theorem dX4_nextCell_51 : decode cX4_nextCell 51 = .ok (.iconst (-1), 1) := by decide +kernel
theorem dX4_nextCell_52 : decode cX4_nextCell 52 = .ok (.ireturn, 1) := by decide +kernel
theorem dX4_nextCell_53 : decode cX4_nextCell 53 = .ok (.iload_n 2, 1) := by decide +kernel
theorem dX4_nextCell_54 : decode cX4_nextCell 54 = .ok (.ifCond .le 9, 3) := by decide +kernel
theorem dX4_nextCell_57 : decode cX4_nextCell 57 = .ok (.iload_n 0, 1) := by decide +kernel
theorem dX4_nextCell_58 : decode cX4_nextCell 58 = .ok (.iconst 1, 1) := by decide +kernel
theorem dX4_nextCell_59 : decode cX4_nextCell 59 = .ok (.isub, 1) := by decide +kernel
theorem dX4_nextCell_60 : decode cX4_nextCell 60 = .ok (.goto 4, 3) := by decide +kernel
theorem dX4_nextCell_63 : decode cX4_nextCell 63 = .ok (.iconst (-1), 1) := by decide +kernel
theorem dX4_nextCell_64 : decode cX4_nextCell 64 = .ok (.ireturn, 1) := by decide +kernel
theorem dX4_nextCell_65 : decode cX4_nextCell 65 = .ok (.iload_n 3, 1) := by decide +kernel
theorem dX4_nextCell_66 : decode cX4_nextCell 66 = .ok (.iconst 5, 1) := by decide +kernel
theorem dX4_nextCell_67 : decode cX4_nextCell 67 = .ok (.if_icmp .ge 10, 3) := by decide +kernel
theorem dX4_nextCell_70 : decode cX4_nextCell 70 = .ok (.iload_n 0, 1) := by decide +kernel
theorem dX4_nextCell_71 : decode cX4_nextCell 71 = .ok (.bipush 6, 2) := by decide +kernel
theorem dX4_nextCell_73 : decode cX4_nextCell 73 = .ok (.iadd, 1) := by decide +kernel
theorem dX4_nextCell_74 : decode cX4_nextCell 74 = .ok (.goto 4, 3) := by decide +kernel
theorem dX4_nextCell_77 : decode cX4_nextCell 77 = .ok (.iconst (-1), 1) := by decide +kernel
theorem dX4_nextCell_78 : decode cX4_nextCell 78 = .ok (.ireturn, 1) := by decide +kernel
theorem dX4_nextCell_79 : decode cX4_nextCell 79 = .ok (.iload_n 3, 1) := by decide +kernel
theorem dX4_nextCell_80 : decode cX4_nextCell 80 = .ok (.ifCond .le 10, 3) := by decide +kernel
theorem dX4_nextCell_83 : decode cX4_nextCell 83 = .ok (.iload_n 0, 1) := by decide +kernel
theorem dX4_nextCell_84 : decode cX4_nextCell 84 = .ok (.bipush 6, 2) := by decide +kernel
theorem dX4_nextCell_86 : decode cX4_nextCell 86 = .ok (.isub, 1) := by decide +kernel
theorem dX4_nextCell_87 : decode cX4_nextCell 87 = .ok (.goto 4, 3) := by decide +kernel
theorem dX4_nextCell_90 : decode cX4_nextCell 90 = .ok (.iconst (-1), 1) := by decide +kernel
theorem dX4_nextCell_91 : decode cX4_nextCell 91 = .ok (.ireturn, 1) := by decide +kernel
theorem dX4_nextCell_92 : decode cX4_nextCell 92 = .ok (.iconst (-1), 1) := by decide +kernel
theorem dX4_nextCell_93 : decode cX4_nextCell 93 = .ok (.ireturn, 1) := by decide +kernel
theorem dX4_moveShoals_0 : decode cX4_moveShoals 0 = .ok (.iconst 0, 1) := by decide +kernel
theorem dX4_moveShoals_1 : decode cX4_moveShoals 1 = .ok (.istore_n 1, 1) := by decide +kernel
theorem dX4_moveShoals_2 : decode cX4_moveShoals 2 = .ok (.iload_n 1, 1) := by decide +kernel
theorem dX4_moveShoals_3 : decode cX4_moveShoals 3 = .ok (.bipush 36, 2) := by decide +kernel
theorem dX4_moveShoals_5 : decode cX4_moveShoals 5 = .ok (.if_icmp .ge 16, 3) := by decide +kernel
theorem dX4_moveShoals_8 : decode cX4_moveShoals 8 = .ok (.aload_n 0, 1) := by decide +kernel
theorem dX4_moveShoals_9 : decode cX4_moveShoals 9 = .ok (.getfield 19, 3) := by decide +kernel
theorem dX4_moveShoals_12 : decode cX4_moveShoals 12 = .ok (.iload_n 1, 1) := by decide +kernel
theorem dX4_moveShoals_13 : decode cX4_moveShoals 13 = .ok (.iconst 0, 1) := by decide +kernel
theorem dX4_moveShoals_14 : decode cX4_moveShoals 14 = .ok (.iastore, 1) := by decide +kernel
theorem dX4_moveShoals_15 : decode cX4_moveShoals 15 = .ok (.iinc 1 1, 3) := by decide +kernel
theorem dX4_moveShoals_18 : decode cX4_moveShoals 18 = .ok (.goto (-16), 3) := by decide +kernel
theorem dX4_moveShoals_21 : decode cX4_moveShoals 21 = .ok (.iconst 0, 1) := by decide +kernel
theorem dX4_moveShoals_22 : decode cX4_moveShoals 22 = .ok (.istore_n 1, 1) := by decide +kernel
theorem dX4_moveShoals_23 : decode cX4_moveShoals 23 = .ok (.iload_n 1, 1) := by decide +kernel
theorem dX4_moveShoals_24 : decode cX4_moveShoals 24 = .ok (.bipush 36, 2) := by decide +kernel
theorem dX4_moveShoals_26 : decode cX4_moveShoals 26 = .ok (.if_icmp .ge 54, 3) := by decide +kernel
theorem dX4_moveShoals_29 : decode cX4_moveShoals 29 = .ok (.iload_n 1, 1) := by decide +kernel
theorem dX4_moveShoals_30 : decode cX4_moveShoals 30 = .ok (.aload_n 0, 1) := by decide +kernel
theorem dX4_moveShoals_31 : decode cX4_moveShoals 31 = .ok (.getfield 26, 3) := by decide +kernel
theorem dX4_moveShoals_34 : decode cX4_moveShoals 34 = .ok (.invokestatic 30, 3) := by decide +kernel
theorem dX4_moveShoals_37 : decode cX4_moveShoals 37 = .ok (.istore_n 2, 1) := by decide +kernel
theorem dX4_moveShoals_38 : decode cX4_moveShoals 38 = .ok (.iload_n 2, 1) := by decide +kernel
theorem dX4_moveShoals_39 : decode cX4_moveShoals 39 = .ok (.invokestatic 22, 3) := by decide +kernel
theorem dX4_moveShoals_42 : decode cX4_moveShoals 42 = .ok (.ifCond .eq 32, 3) := by decide +kernel
theorem dX4_moveShoals_45 : decode cX4_moveShoals 45 = .ok (.aload_n 0, 1) := by decide +kernel
theorem dX4_moveShoals_46 : decode cX4_moveShoals 46 = .ok (.getfield 9, 3) := by decide +kernel
theorem dX4_moveShoals_49 : decode cX4_moveShoals 49 = .ok (.iload_n 1, 1) := by decide +kernel
theorem dX4_moveShoals_50 : decode cX4_moveShoals 50 = .ok (.iaload, 1) := by decide +kernel
theorem dX4_moveShoals_51 : decode cX4_moveShoals 51 = .ok (.iconst 4, 1) := by decide +kernel
theorem dX4_moveShoals_52 : decode cX4_moveShoals 52 = .ok (.idiv, 1) := by decide +kernel
theorem dX4_moveShoals_53 : decode cX4_moveShoals 53 = .ok (.istore_n 3, 1) := by decide +kernel
theorem dX4_moveShoals_54 : decode cX4_moveShoals 54 = .ok (.aload_n 0, 1) := by decide +kernel
theorem dX4_moveShoals_55 : decode cX4_moveShoals 55 = .ok (.getfield 19, 3) := by decide +kernel
theorem dX4_moveShoals_58 : decode cX4_moveShoals 58 = .ok (.iload_n 1, 1) := by decide +kernel
theorem dX4_moveShoals_59 : decode cX4_moveShoals 59 = .ok (.dup2, 1) := by decide +kernel
theorem dX4_moveShoals_60 : decode cX4_moveShoals 60 = .ok (.iaload, 1) := by decide +kernel
theorem dX4_moveShoals_61 : decode cX4_moveShoals 61 = .ok (.iload_n 3, 1) := by decide +kernel
theorem dX4_moveShoals_62 : decode cX4_moveShoals 62 = .ok (.isub, 1) := by decide +kernel
theorem dX4_moveShoals_63 : decode cX4_moveShoals 63 = .ok (.iastore, 1) := by decide +kernel
theorem dX4_moveShoals_64 : decode cX4_moveShoals 64 = .ok (.aload_n 0, 1) := by decide +kernel
theorem dX4_moveShoals_65 : decode cX4_moveShoals 65 = .ok (.getfield 19, 3) := by decide +kernel
theorem dX4_moveShoals_68 : decode cX4_moveShoals 68 = .ok (.iload_n 2, 1) := by decide +kernel
theorem dX4_moveShoals_69 : decode cX4_moveShoals 69 = .ok (.dup2, 1) := by decide +kernel
theorem dX4_moveShoals_70 : decode cX4_moveShoals 70 = .ok (.iaload, 1) := by decide +kernel
theorem dX4_moveShoals_71 : decode cX4_moveShoals 71 = .ok (.iload_n 3, 1) := by decide +kernel
theorem dX4_moveShoals_72 : decode cX4_moveShoals 72 = .ok (.iadd, 1) := by decide +kernel
theorem dX4_moveShoals_73 : decode cX4_moveShoals 73 = .ok (.iastore, 1) := by decide +kernel
theorem dX4_moveShoals_74 : decode cX4_moveShoals 74 = .ok (.iinc 1 1, 3) := by decide +kernel
theorem dX4_moveShoals_77 : decode cX4_moveShoals 77 = .ok (.goto (-54), 3) := by decide +kernel
theorem dX4_moveShoals_80 : decode cX4_moveShoals 80 = .ok (.iconst 0, 1) := by decide +kernel
theorem dX4_moveShoals_81 : decode cX4_moveShoals 81 = .ok (.istore_n 1, 1) := by decide +kernel
theorem dX4_moveShoals_82 : decode cX4_moveShoals 82 = .ok (.iload_n 1, 1) := by decide +kernel
theorem dX4_moveShoals_83 : decode cX4_moveShoals 83 = .ok (.bipush 36, 2) := by decide +kernel
theorem dX4_moveShoals_85 : decode cX4_moveShoals 85 = .ok (.if_icmp .ge 53, 3) := by decide +kernel
theorem dX4_moveShoals_88 : decode cX4_moveShoals 88 = .ok (.aload_n 0, 1) := by decide +kernel
theorem dX4_moveShoals_89 : decode cX4_moveShoals 89 = .ok (.getfield 9, 3) := by decide +kernel
theorem dX4_moveShoals_92 : decode cX4_moveShoals 92 = .ok (.iload_n 1, 1) := by decide +kernel
theorem dX4_moveShoals_93 : decode cX4_moveShoals 93 = .ok (.iaload, 1) := by decide +kernel
theorem dX4_moveShoals_94 : decode cX4_moveShoals 94 = .ok (.aload_n 0, 1) := by decide +kernel
theorem dX4_moveShoals_95 : decode cX4_moveShoals 95 = .ok (.getfield 19, 3) := by decide +kernel
theorem dX4_moveShoals_98 : decode cX4_moveShoals 98 = .ok (.iload_n 1, 1) := by decide +kernel
theorem dX4_moveShoals_99 : decode cX4_moveShoals 99 = .ok (.iaload, 1) := by decide +kernel
theorem dX4_moveShoals_100 : decode cX4_moveShoals 100 = .ok (.iadd, 1) := by decide +kernel
theorem dX4_moveShoals_101 : decode cX4_moveShoals 101 = .ok (.istore_n 2, 1) := by decide +kernel
theorem dX4_moveShoals_102 : decode cX4_moveShoals 102 = .ok (.aload_n 0, 1) := by decide +kernel
theorem dX4_moveShoals_103 : decode cX4_moveShoals 103 = .ok (.getfield 9, 3) := by decide +kernel
theorem dX4_moveShoals_106 : decode cX4_moveShoals 106 = .ok (.iload_n 1, 1) := by decide +kernel
theorem dX4_moveShoals_107 : decode cX4_moveShoals 107 = .ok (.iload_n 2, 1) := by decide +kernel
theorem dX4_moveShoals_108 : decode cX4_moveShoals 108 = .ok (.sipush 10000, 3) := by decide +kernel
theorem dX4_moveShoals_111 : decode cX4_moveShoals 111 = .ok (.invokestatic 34, 3) := by decide +kernel
theorem dX4_moveShoals_114 : decode cX4_moveShoals 114 = .ok (.iastore, 1) := by decide +kernel
theorem dX4_moveShoals_115 : decode cX4_moveShoals 115 = .ok (.aload_n 0, 1) := by decide +kernel
theorem dX4_moveShoals_116 : decode cX4_moveShoals 116 = .ok (.dup, 1) := by decide +kernel
theorem dX4_moveShoals_117 : decode cX4_moveShoals 117 = .ok (.getfield 39, 3) := by decide +kernel
theorem dX4_moveShoals_120 : decode cX4_moveShoals 120 = .ok (.iload_n 2, 1) := by decide +kernel
theorem dX4_moveShoals_121 : decode cX4_moveShoals 121 = .ok (.aload_n 0, 1) := by decide +kernel
theorem dX4_moveShoals_122 : decode cX4_moveShoals 122 = .ok (.getfield 9, 3) := by decide +kernel
theorem dX4_moveShoals_125 : decode cX4_moveShoals 125 = .ok (.iload_n 1, 1) := by decide +kernel
theorem dX4_moveShoals_126 : decode cX4_moveShoals 126 = .ok (.iaload, 1) := by decide +kernel
theorem dX4_moveShoals_127 : decode cX4_moveShoals 127 = .ok (.isub, 1) := by decide +kernel
theorem dX4_moveShoals_128 : decode cX4_moveShoals 128 = .ok (.iadd, 1) := by decide +kernel
theorem dX4_moveShoals_129 : decode cX4_moveShoals 129 = .ok (.putfield 39, 3) := by decide +kernel
theorem dX4_moveShoals_132 : decode cX4_moveShoals 132 = .ok (.iinc 1 1, 3) := by decide +kernel
theorem dX4_moveShoals_135 : decode cX4_moveShoals 135 = .ok (.goto (-53), 3) := by decide +kernel
theorem dX4_moveShoals_138 : decode cX4_moveShoals 138 = .ok (.return_, 1) := by decide +kernel
theorem dX4_cransInAll_0 : decode cX4_cransInAll 0 = .ok (.iconst 0, 1) := by decide +kernel
theorem dX4_cransInAll_1 : decode cX4_cransInAll 1 = .ok (.istore_n 1, 1) := by decide +kernel
theorem dX4_cransInAll_2 : decode cX4_cransInAll 2 = .ok (.iconst 0, 1) := by decide +kernel
theorem dX4_cransInAll_3 : decode cX4_cransInAll 3 = .ok (.istore_n 2, 1) := by decide +kernel
theorem dX4_cransInAll_4 : decode cX4_cransInAll 4 = .ok (.iload_n 2, 1) := by decide +kernel
theorem dX4_cransInAll_5 : decode cX4_cransInAll 5 = .ok (.bipush 36, 2) := by decide +kernel
theorem dX4_cransInAll_7 : decode cX4_cransInAll 7 = .ok (.if_icmp .ge 18, 3) := by decide +kernel
theorem dX4_cransInAll_10 : decode cX4_cransInAll 10 = .ok (.iload_n 1, 1) := by decide +kernel
theorem dX4_cransInAll_11 : decode cX4_cransInAll 11 = .ok (.aload_n 0, 1) := by decide +kernel
theorem dX4_cransInAll_12 : decode cX4_cransInAll 12 = .ok (.getfield 9, 3) := by decide +kernel
theorem dX4_cransInAll_15 : decode cX4_cransInAll 15 = .ok (.iload_n 2, 1) := by decide +kernel
theorem dX4_cransInAll_16 : decode cX4_cransInAll 16 = .ok (.iaload, 1) := by decide +kernel
theorem dX4_cransInAll_17 : decode cX4_cransInAll 17 = .ok (.iadd, 1) := by decide +kernel
theorem dX4_cransInAll_18 : decode cX4_cransInAll 18 = .ok (.istore_n 1, 1) := by decide +kernel
theorem dX4_cransInAll_19 : decode cX4_cransInAll 19 = .ok (.iinc 2 1, 3) := by decide +kernel
theorem dX4_cransInAll_22 : decode cX4_cransInAll 22 = .ok (.goto (-18), 3) := by decide +kernel
theorem dX4_cransInAll_25 : decode cX4_cransInAll 25 = .ok (.iload_n 1, 1) := by decide +kernel
theorem dX4_cransInAll_26 : decode cX4_cransInAll 26 = .ok (.ireturn, 1) := by decide +kernel
theorem dX5_init_0 : decode cX5_init 0 = .ok (.aload_n 0, 1) := by decide +kernel
theorem dX5_init_1 : decode cX5_init 1 = .ok (.invokespecial 3, 3) := by decide +kernel
theorem dX5_init_4 : decode cX5_init 4 = .ok (.aload_n 0, 1) := by decide +kernel
theorem dX5_init_5 : decode cX5_init 5 = .ok (.sipush 200, 3) := by decide +kernel
theorem dX5_init_8 : decode cX5_init 8 = .ok (.newarray .int, 2) := by decide +kernel
theorem dX5_init_10 : decode cX5_init 10 = .ok (.putfield 9, 3) := by decide +kernel
theorem dX5_init_13 : decode cX5_init 13 = .ok (.return_, 1) := by decide +kernel
theorem dX5_bytesIn_0 : decode cX5_bytesIn 0 = .ok (.iconst 0, 1) := by decide +kernel
theorem dX5_bytesIn_1 : decode cX5_bytesIn 1 = .ok (.istore_n 1, 1) := by decide +kernel
theorem dX5_bytesIn_2 : decode cX5_bytesIn 2 = .ok (.bipush 24, 2) := by decide +kernel
theorem dX5_bytesIn_4 : decode cX5_bytesIn 4 = .ok (.istore_n 2, 1) := by decide +kernel
theorem dX5_bytesIn_5 : decode cX5_bytesIn 5 = .ok (.iload_n 2, 1) := by decide +kernel
theorem dX5_bytesIn_6 : decode cX5_bytesIn 6 = .ok (.ifCond .lt 22, 3) := by decide +kernel
theorem dX5_bytesIn_9 : decode cX5_bytesIn 9 = .ok (.iload_n 0, 1) := by decide +kernel
theorem dX5_bytesIn_10 : decode cX5_bytesIn 10 = .ok (.iload_n 2, 1) := by decide +kernel
theorem dX5_bytesIn_11 : decode cX5_bytesIn 11 = .ok (.iushr, 1) := by decide +kernel
theorem dX5_bytesIn_12 : decode cX5_bytesIn 12 = .ok (.sipush 255, 3) := by decide +kernel
theorem dX5_bytesIn_15 : decode cX5_bytesIn 15 = .ok (.iand, 1) := by decide +kernel
theorem dX5_bytesIn_16 : decode cX5_bytesIn 16 = .ok (.ifCond .eq 6, 3) := by decide +kernel
theorem dX5_bytesIn_19 : decode cX5_bytesIn 19 = .ok (.iinc 1 1, 3) := by decide +kernel
theorem dX5_bytesIn_22 : decode cX5_bytesIn 22 = .ok (.iinc 2 (-8), 3) := by decide +kernel
theorem dX5_bytesIn_25 : decode cX5_bytesIn 25 = .ok (.goto (-20), 3) := by decide +kernel
theorem dX5_bytesIn_28 : decode cX5_bytesIn 28 = .ok (.iload_n 1, 1) := by decide +kernel
theorem dX5_bytesIn_29 : decode cX5_bytesIn 29 = .ok (.ireturn, 1) := by decide +kernel
theorem dX5_addWord_0 : decode cX5_addWord 0 = .ok (.bipush 24, 2) := by decide +kernel
theorem dX5_addWord_2 : decode cX5_addWord 2 = .ok (.istore_n 2, 1) := by decide +kernel
theorem dX5_addWord_3 : decode cX5_addWord 3 = .ok (.iload_n 2, 1) := by decide +kernel
theorem dX5_addWord_4 : decode cX5_addWord 4 = .ok (.ifCond .lt 51, 3) := by decide +kernel
theorem dX5_addWord_7 : decode cX5_addWord 7 = .ok (.iload_n 1, 1) := by decide +kernel
theorem dX5_addWord_8 : decode cX5_addWord 8 = .ok (.iload_n 2, 1) := by decide +kernel
theorem dX5_addWord_9 : decode cX5_addWord 9 = .ok (.iushr, 1) := by decide +kernel
theorem dX5_addWord_10 : decode cX5_addWord 10 = .ok (.sipush 255, 3) := by decide +kernel
theorem dX5_addWord_13 : decode cX5_addWord 13 = .ok (.iand, 1) := by decide +kernel
theorem dX5_addWord_14 : decode cX5_addWord 14 = .ok (.istore_n 3, 1) := by decide +kernel
theorem dX5_addWord_15 : decode cX5_addWord 15 = .ok (.iload_n 3, 1) := by decide +kernel
theorem dX5_addWord_16 : decode cX5_addWord 16 = .ok (.ifCond .eq 33, 3) := by decide +kernel
theorem dX5_addWord_19 : decode cX5_addWord 19 = .ok (.aload_n 0, 1) := by decide +kernel
theorem dX5_addWord_20 : decode cX5_addWord 20 = .ok (.getfield 15, 3) := by decide +kernel
theorem dX5_addWord_23 : decode cX5_addWord 23 = .ok (.sipush 200, 3) := by decide +kernel
theorem dX5_addWord_26 : decode cX5_addWord 26 = .ok (.if_icmp .ge 23, 3) := by decide +kernel
theorem dX5_addWord_29 : decode cX5_addWord 29 = .ok (.aload_n 0, 1) := by decide +kernel
theorem dX5_addWord_30 : decode cX5_addWord 30 = .ok (.getfield 9, 3) := by decide +kernel
theorem dX5_addWord_33 : decode cX5_addWord 33 = .ok (.aload_n 0, 1) := by decide +kernel
theorem dX5_addWord_34 : decode cX5_addWord 34 = .ok (.getfield 15, 3) := by decide +kernel
theorem dX5_addWord_37 : decode cX5_addWord 37 = .ok (.iload_n 3, 1) := by decide +kernel
theorem dX5_addWord_38 : decode cX5_addWord 38 = .ok (.iastore, 1) := by decide +kernel
theorem dX5_addWord_39 : decode cX5_addWord 39 = .ok (.aload_n 0, 1) := by decide +kernel
theorem dX5_addWord_40 : decode cX5_addWord 40 = .ok (.dup, 1) := by decide +kernel
theorem dX5_addWord_41 : decode cX5_addWord 41 = .ok (.getfield 15, 3) := by decide +kernel
theorem dX5_addWord_44 : decode cX5_addWord 44 = .ok (.iconst 1, 1) := by decide +kernel
theorem dX5_addWord_45 : decode cX5_addWord 45 = .ok (.iadd, 1) := by decide +kernel
theorem dX5_addWord_46 : decode cX5_addWord 46 = .ok (.putfield 15, 3) := by decide +kernel
theorem dX5_addWord_49 : decode cX5_addWord 49 = .ok (.iinc 2 (-8), 3) := by decide +kernel
theorem dX5_addWord_52 : decode cX5_addWord 52 = .ok (.goto (-49), 3) := by decide +kernel
theorem dX5_addWord_55 : decode cX5_addWord 55 = .ok (.return_, 1) := by decide +kernel
theorem dX5_byteAt_0 : decode cX5_byteAt 0 = .ok (.iload_n 1, 1) := by decide +kernel
theorem dX5_byteAt_1 : decode cX5_byteAt 1 = .ok (.ifCond .lt 19, 3) := by decide +kernel
theorem dX5_byteAt_4 : decode cX5_byteAt 4 = .ok (.iload_n 1, 1) := by decide +kernel
theorem dX5_byteAt_5 : decode cX5_byteAt 5 = .ok (.sipush 200, 3) := by decide +kernel
theorem dX5_byteAt_8 : decode cX5_byteAt 8 = .ok (.if_icmp .ge 12, 3) := by decide +kernel
theorem dX5_byteAt_11 : decode cX5_byteAt 11 = .ok (.aload_n 0, 1) := by decide +kernel
theorem dX5_byteAt_12 : decode cX5_byteAt 12 = .ok (.getfield 9, 3) := by decide +kernel
theorem dX5_byteAt_15 : decode cX5_byteAt 15 = .ok (.iload_n 1, 1) := by decide +kernel
theorem dX5_byteAt_16 : decode cX5_byteAt 16 = .ok (.iaload, 1) := by decide +kernel
theorem dX5_byteAt_17 : decode cX5_byteAt 17 = .ok (.goto 4, 3) := by decide +kernel
theorem dX5_byteAt_20 : decode cX5_byteAt 20 = .ok (.iconst 0, 1) := by decide +kernel
theorem dX5_byteAt_21 : decode cX5_byteAt 21 = .ok (.ireturn, 1) := by decide +kernel
theorem dX5_copyFrom_0 : decode cX5_copyFrom 0 = .ok (.aload_n 0, 1) := by decide +kernel
theorem dX5_copyFrom_1 : decode cX5_copyFrom 1 = .ok (.aload_n 1, 1) := by decide +kernel
theorem dX5_copyFrom_2 : decode cX5_copyFrom 2 = .ok (.getfield 15, 3) := by decide +kernel
theorem dX5_copyFrom_5 : decode cX5_copyFrom 5 = .ok (.putfield 15, 3) := by decide +kernel
theorem dX5_copyFrom_8 : decode cX5_copyFrom 8 = .ok (.iconst 0, 1) := by decide +kernel
theorem dX5_copyFrom_9 : decode cX5_copyFrom 9 = .ok (.istore_n 2, 1) := by decide +kernel
theorem dX5_copyFrom_10 : decode cX5_copyFrom 10 = .ok (.iload_n 2, 1) := by decide +kernel
theorem dX5_copyFrom_11 : decode cX5_copyFrom 11 = .ok (.aload_n 0, 1) := by decide +kernel
theorem dX5_copyFrom_12 : decode cX5_copyFrom 12 = .ok (.getfield 15, 3) := by decide +kernel
theorem dX5_copyFrom_15 : decode cX5_copyFrom 15 = .ok (.if_icmp .ge 27, 3) := by decide +kernel
theorem dX5_copyFrom_18 : decode cX5_copyFrom 18 = .ok (.iload_n 2, 1) := by decide +kernel
theorem dX5_copyFrom_19 : decode cX5_copyFrom 19 = .ok (.sipush 200, 3) := by decide +kernel
theorem dX5_copyFrom_22 : decode cX5_copyFrom 22 = .ok (.if_icmp .ge 20, 3) := by decide +kernel
theorem dX5_copyFrom_25 : decode cX5_copyFrom 25 = .ok (.aload_n 0, 1) := by decide +kernel
theorem dX5_copyFrom_26 : decode cX5_copyFrom 26 = .ok (.getfield 9, 3) := by decide +kernel
theorem dX5_copyFrom_29 : decode cX5_copyFrom 29 = .ok (.iload_n 2, 1) := by decide +kernel
theorem dX5_copyFrom_30 : decode cX5_copyFrom 30 = .ok (.aload_n 1, 1) := by decide +kernel
theorem dX5_copyFrom_31 : decode cX5_copyFrom 31 = .ok (.iload_n 2, 1) := by decide +kernel
theorem dX5_copyFrom_32 : decode cX5_copyFrom 32 = .ok (.invokevirtual 19, 3) := by decide +kernel
theorem dX5_copyFrom_35 : decode cX5_copyFrom 35 = .ok (.iastore, 1) := by decide +kernel
theorem dX5_copyFrom_36 : decode cX5_copyFrom 36 = .ok (.iinc 2 1, 3) := by decide +kernel
theorem dX5_copyFrom_39 : decode cX5_copyFrom 39 = .ok (.goto (-29), 3) := by decide +kernel
theorem dX5_copyFrom_42 : decode cX5_copyFrom 42 = .ok (.return_, 1) := by decide +kernel
theorem dX6_init_0 : decode cX6_init 0 = .ok (.aload_n 0, 1) := by decide +kernel
theorem dX6_init_1 : decode cX6_init 1 = .ok (.invokespecial 1, 3) := by decide +kernel
theorem dX6_init_4 : decode cX6_init 4 = .ok (.return_, 1) := by decide +kernel
theorem dX6_holds_0 : decode cX6_holds 0 = .ok (.aload_n 0, 1) := by decide +kernel
theorem dX6_holds_1 : decode cX6_holds 1 = .ok (.iconst 0, 1) := by decide +kernel
theorem dX6_holds_2 : decode cX6_holds 2 = .ok (.putfield 7, 3) := by decide +kernel
theorem dX6_holds_5 : decode cX6_holds 5 = .ok (.aload_n 0, 1) := by decide +kernel
theorem dX6_holds_6 : decode cX6_holds 6 = .ok (.iconst 1, 1) := by decide +kernel
theorem dX6_holds_7 : decode cX6_holds 7 = .ok (.putfield 13, 3) := by decide +kernel
theorem dX6_holds_10 : decode cX6_holds 10 = .ok (.aload_n 0, 1) := by decide +kernel
theorem dX6_holds_11 : decode cX6_holds 11 = .ok (.iconst 0, 1) := by decide +kernel
theorem dX6_holds_12 : decode cX6_holds 12 = .ok (.putfield 16, 3) := by decide +kernel
theorem dX6_holds_15 : decode cX6_holds 15 = .ok (.iconst 0, 1) := by decide +kernel
theorem dX6_holds_16 : decode cX6_holds 16 = .ok (.istore 4, 2) := by decide +kernel
theorem dX6_holds_18 : decode cX6_holds 18 = .ok (.iload 4, 2) := by decide +kernel
theorem dX6_holds_20 : decode cX6_holds 20 = .ok (.aload_n 1, 1) := by decide +kernel
theorem dX6_holds_21 : decode cX6_holds 21 = .ok (.getfield 19, 3) := by decide +kernel
theorem dX6_holds_24 : decode cX6_holds 24 = .ok (.if_icmp .ge 21, 3) := by decide +kernel
theorem dX6_holds_27 : decode cX6_holds 27 = .ok (.aload_n 0, 1) := by decide +kernel
theorem dX6_holds_28 : decode cX6_holds 28 = .ok (.aload_n 1, 1) := by decide +kernel
theorem dX6_holds_29 : decode cX6_holds 29 = .ok (.iload 4, 2) := by decide +kernel
theorem dX6_holds_31 : decode cX6_holds 31 = .ok (.invokevirtual 24, 3) := by decide +kernel
theorem dX6_holds_34 : decode cX6_holds 34 = .ok (.aload_n 2, 1) := by decide +kernel
theorem dX6_holds_35 : decode cX6_holds 35 = .ok (.iload_n 3, 1) := by decide +kernel
theorem dX6_holds_36 : decode cX6_holds 36 = .ok (.invokevirtual 28, 3) := by decide +kernel
theorem dX6_holds_39 : decode cX6_holds 39 = .ok (.iinc 4 1, 3) := by decide +kernel
theorem dX6_holds_42 : decode cX6_holds 42 = .ok (.goto (-24), 3) := by decide +kernel
theorem dX6_holds_45 : decode cX6_holds 45 = .ok (.aload_n 0, 1) := by decide +kernel
theorem dX6_holds_46 : decode cX6_holds 46 = .ok (.aload_n 2, 1) := by decide +kernel
theorem dX6_holds_47 : decode cX6_holds 47 = .ok (.iload_n 3, 1) := by decide +kernel
theorem dX6_holds_48 : decode cX6_holds 48 = .ok (.invokevirtual 32, 3) := by decide +kernel
theorem dX6_holds_51 : decode cX6_holds 51 = .ok (.aload_n 0, 1) := by decide +kernel
theorem dX6_holds_52 : decode cX6_holds 52 = .ok (.invokevirtual 36, 3) := by decide +kernel
theorem dX6_holds_55 : decode cX6_holds 55 = .ok (.aload_n 0, 1) := by decide +kernel
theorem dX6_holds_56 : decode cX6_holds 56 = .ok (.getfield 7, 3) := by decide +kernel
theorem dX6_holds_59 : decode cX6_holds 59 = .ok (.iconst 1, 1) := by decide +kernel
theorem dX6_holds_60 : decode cX6_holds 60 = .ok (.iand, 1) := by decide +kernel
theorem dX6_holds_61 : decode cX6_holds 61 = .ok (.iconst 1, 1) := by decide +kernel
theorem dX6_holds_62 : decode cX6_holds 62 = .ok (.if_icmp .ne 7, 3) := by decide +kernel
theorem dX6_holds_65 : decode cX6_holds 65 = .ok (.iconst 1, 1) := by decide +kernel
theorem dX6_holds_66 : decode cX6_holds 66 = .ok (.goto 4, 3) := by decide +kernel
theorem dX6_holds_69 : decode cX6_holds 69 = .ok (.iconst 0, 1) := by decide +kernel
theorem dX6_holds_70 : decode cX6_holds 70 = .ok (.ireturn, 1) := by decide +kernel
theorem dX6_read_0 : decode cX6_read 0 = .ok (.iload_n 1, 1) := by decide +kernel
theorem dX6_read_1 : decode cX6_read 1 = .ok (.invokestatic 39, 3) := by decide +kernel
theorem dX6_read_4 : decode cX6_read 4 = .ok (.ifCond .eq 20, 3) := by decide +kernel
theorem dX6_read_7 : decode cX6_read 7 = .ok (.aload_n 0, 1) := by decide +kernel
theorem dX6_read_8 : decode cX6_read 8 = .ok (.aload_n 0, 1) := by decide +kernel
theorem dX6_read_9 : decode cX6_read 9 = .ok (.getfield 45, 3) := by decide +kernel
theorem dX6_read_12 : decode cX6_read 12 = .ok (.bipush 10, 2) := by decide +kernel
theorem dX6_read_14 : decode cX6_read 14 = .ok (.imul, 1) := by decide +kernel
theorem dX6_read_15 : decode cX6_read 15 = .ok (.iload_n 1, 1) := by decide +kernel
theorem dX6_read_16 : decode cX6_read 16 = .ok (.bipush 48, 2) := by decide +kernel
theorem dX6_read_18 : decode cX6_read 18 = .ok (.isub, 1) := by decide +kernel
theorem dX6_read_19 : decode cX6_read 19 = .ok (.iadd, 1) := by decide +kernel
theorem dX6_read_20 : decode cX6_read 20 = .ok (.putfield 45, 3) := by decide +kernel
theorem dX6_read_23 : decode cX6_read 23 = .ok (.return_, 1) := by decide +kernel
theorem dX6_read_24 : decode cX6_read 24 = .ok (.iload_n 1, 1) := by decide +kernel
theorem dX6_read_25 : decode cX6_read 25 = .ok (.lookupswitch 151 #[(32, 75), (38, 116), (40, 78), (41, 103), (60, 138), (61, 138), (62, 138), (124, 125)], 75) := by decide +kernel
theorem dX6_read_100 : decode cX6_read 100 = .ok (.goto 81, 3) := by decide +kernel
theorem dX6_read_103 : decode cX6_read 103 = .ok (.aload_n 0, 1) := by decide +kernel
theorem dX6_read_104 : decode cX6_read 104 = .ok (.aload_n 0, 1) := by decide +kernel
theorem dX6_read_105 : decode cX6_read 105 = .ok (.getfield 7, 3) := by decide +kernel
theorem dX6_read_108 : decode cX6_read 108 = .ok (.iconst 1, 1) := by decide +kernel
theorem dX6_read_109 : decode cX6_read 109 = .ok (.ishl, 1) := by decide +kernel
theorem dX6_read_110 : decode cX6_read 110 = .ok (.putfield 7, 3) := by decide +kernel
theorem dX6_read_113 : decode cX6_read 113 = .ok (.aload_n 0, 1) := by decide +kernel
theorem dX6_read_114 : decode cX6_read 114 = .ok (.aload_n 0, 1) := by decide +kernel
theorem dX6_read_115 : decode cX6_read 115 = .ok (.getfield 13, 3) := by decide +kernel
theorem dX6_read_118 : decode cX6_read 118 = .ok (.iconst 1, 1) := by decide +kernel
theorem dX6_read_119 : decode cX6_read 119 = .ok (.ishl, 1) := by decide +kernel
theorem dX6_read_120 : decode cX6_read 120 = .ok (.iconst 1, 1) := by decide +kernel
theorem dX6_read_121 : decode cX6_read 121 = .ok (.ior, 1) := by decide +kernel
theorem dX6_read_122 : decode cX6_read 122 = .ok (.putfield 13, 3) := by decide +kernel
theorem dX6_read_125 : decode cX6_read 125 = .ok (.goto 56, 3) := by decide +kernel
theorem dX6_read_128 : decode cX6_read 128 = .ok (.aload_n 0, 1) := by decide +kernel
theorem dX6_read_129 : decode cX6_read 129 = .ok (.aload_n 2, 1) := by decide +kernel
theorem dX6_read_130 : decode cX6_read 130 = .ok (.iload_n 3, 1) := by decide +kernel
theorem dX6_read_131 : decode cX6_read 131 = .ok (.invokevirtual 32, 3) := by decide +kernel
theorem dX6_read_134 : decode cX6_read 134 = .ok (.aload_n 0, 1) := by decide +kernel
theorem dX6_read_135 : decode cX6_read 135 = .ok (.invokevirtual 48, 3) := by decide +kernel
theorem dX6_read_138 : decode cX6_read 138 = .ok (.goto 43, 3) := by decide +kernel
theorem dX6_read_141 : decode cX6_read 141 = .ok (.aload_n 0, 1) := by decide +kernel
theorem dX6_read_142 : decode cX6_read 142 = .ok (.aload_n 2, 1) := by decide +kernel
theorem dX6_read_143 : decode cX6_read 143 = .ok (.iload_n 3, 1) := by decide +kernel
theorem dX6_read_144 : decode cX6_read 144 = .ok (.invokevirtual 32, 3) := by decide +kernel
theorem dX6_read_147 : decode cX6_read 147 = .ok (.goto 34, 3) := by decide +kernel
theorem dX6_read_150 : decode cX6_read 150 = .ok (.aload_n 0, 1) := by decide +kernel
theorem dX6_read_151 : decode cX6_read 151 = .ok (.aload_n 2, 1) := by decide +kernel
theorem dX6_read_152 : decode cX6_read 152 = .ok (.iload_n 3, 1) := by decide +kernel
theorem dX6_read_153 : decode cX6_read 153 = .ok (.invokevirtual 32, 3) := by decide +kernel
theorem dX6_read_156 : decode cX6_read 156 = .ok (.aload_n 0, 1) := by decide +kernel
theorem dX6_read_157 : decode cX6_read 157 = .ok (.invokevirtual 36, 3) := by decide +kernel
theorem dX6_read_160 : decode cX6_read 160 = .ok (.goto 21, 3) := by decide +kernel
theorem dX6_read_163 : decode cX6_read 163 = .ok (.aload_n 0, 1) := by decide +kernel
theorem dX6_read_164 : decode cX6_read 164 = .ok (.iload_n 1, 1) := by decide +kernel
theorem dX6_read_165 : decode cX6_read 165 = .ok (.putfield 51, 3) := by decide +kernel
theorem dX6_read_168 : decode cX6_read 168 = .ok (.aload_n 0, 1) := by decide +kernel
theorem dX6_read_169 : decode cX6_read 169 = .ok (.iconst 0, 1) := by decide +kernel
theorem dX6_read_170 : decode cX6_read 170 = .ok (.putfield 45, 3) := by decide +kernel
theorem dX6_read_173 : decode cX6_read 173 = .ok (.goto 8, 3) := by decide +kernel
theorem dX6_read_176 : decode cX6_read 176 = .ok (.aload_n 0, 1) := by decide +kernel
theorem dX6_read_177 : decode cX6_read 177 = .ok (.iload_n 1, 1) := by decide +kernel
theorem dX6_read_178 : decode cX6_read 178 = .ok (.putfield 16, 3) := by decide +kernel
theorem dX6_read_181 : decode cX6_read 181 = .ok (.return_, 1) := by decide +kernel
theorem dX6_endComparison_0 : decode cX6_endComparison 0 = .ok (.aload_n 0, 1) := by decide +kernel
theorem dX6_endComparison_1 : decode cX6_endComparison 1 = .ok (.getfield 16, 3) := by decide +kernel
theorem dX6_endComparison_4 : decode cX6_endComparison 4 = .ok (.ifCond .eq 25, 3) := by decide +kernel
theorem dX6_endComparison_7 : decode cX6_endComparison 7 = .ok (.aload_n 0, 1) := by decide +kernel
theorem dX6_endComparison_8 : decode cX6_endComparison 8 = .ok (.aload_n 0, 1) := by decide +kernel
theorem dX6_endComparison_9 : decode cX6_endComparison 9 = .ok (.aload_n 1, 1) := by decide +kernel
theorem dX6_endComparison_10 : decode cX6_endComparison 10 = .ok (.aload_n 0, 1) := by decide +kernel
theorem dX6_endComparison_11 : decode cX6_endComparison 11 = .ok (.getfield 16, 3) := by decide +kernel
theorem dX6_endComparison_14 : decode cX6_endComparison 14 = .ok (.iload_n 2, 1) := by decide +kernel
theorem dX6_endComparison_15 : decode cX6_endComparison 15 = .ok (.invokevirtual 54, 3) := by decide +kernel
theorem dX6_endComparison_18 : decode cX6_endComparison 18 = .ok (.invokevirtual 60, 3) := by decide +kernel
theorem dX6_endComparison_21 : decode cX6_endComparison 21 = .ok (.invokevirtual 63, 3) := by decide +kernel
theorem dX6_endComparison_24 : decode cX6_endComparison 24 = .ok (.aload_n 0, 1) := by decide +kernel
theorem dX6_endComparison_25 : decode cX6_endComparison 25 = .ok (.iconst 0, 1) := by decide +kernel
theorem dX6_endComparison_26 : decode cX6_endComparison 26 = .ok (.putfield 16, 3) := by decide +kernel
theorem dX6_endComparison_29 : decode cX6_endComparison 29 = .ok (.return_, 1) := by decide +kernel
theorem dX6_compares_0 : decode cX6_compares 0 = .ok (.aload_n 0, 1) := by decide +kernel
theorem dX6_compares_1 : decode cX6_compares 1 = .ok (.getfield 51, 3) := by decide +kernel
theorem dX6_compares_4 : decode cX6_compares 4 = .ok (.lookupswitch 56 #[(60, 42), (61, 28)], 28) := by decide +kernel
theorem dX6_compares_32 : decode cX6_compares 32 = .ok (.iload_n 1, 1) := by decide +kernel
theorem dX6_compares_33 : decode cX6_compares 33 = .ok (.aload_n 0, 1) := by decide +kernel
theorem dX6_compares_34 : decode cX6_compares 34 = .ok (.getfield 45, 3) := by decide +kernel
theorem dX6_compares_37 : decode cX6_compares 37 = .ok (.if_icmp .ne 7, 3) := by decide +kernel
theorem dX6_compares_40 : decode cX6_compares 40 = .ok (.iconst 1, 1) := by decide +kernel
theorem dX6_compares_41 : decode cX6_compares 41 = .ok (.goto 4, 3) := by decide +kernel
theorem dX6_compares_44 : decode cX6_compares 44 = .ok (.iconst 0, 1) := by decide +kernel
theorem dX6_compares_45 : decode cX6_compares 45 = .ok (.ireturn, 1) := by decide +kernel
theorem dX6_compares_46 : decode cX6_compares 46 = .ok (.iload_n 1, 1) := by decide +kernel
theorem dX6_compares_47 : decode cX6_compares 47 = .ok (.aload_n 0, 1) := by decide +kernel
theorem dX6_compares_48 : decode cX6_compares 48 = .ok (.getfield 45, 3) := by decide +kernel
theorem dX6_compares_51 : decode cX6_compares 51 = .ok (.if_icmp .ge 7, 3) := by decide +kernel
theorem dX6_compares_54 : decode cX6_compares 54 = .ok (.iconst 1, 1) := by decide +kernel
theorem dX6_compares_55 : decode cX6_compares 55 = .ok (.goto 4, 3) := by decide +kernel
theorem dX6_compares_58 : decode cX6_compares 58 = .ok (.iconst 0, 1) := by decide +kernel
theorem dX6_compares_59 : decode cX6_compares 59 = .ok (.ireturn, 1) := by decide +kernel
theorem dX6_compares_60 : decode cX6_compares 60 = .ok (.iload_n 1, 1) := by decide +kernel
theorem dX6_compares_61 : decode cX6_compares 61 = .ok (.aload_n 0, 1) := by decide +kernel
theorem dX6_compares_62 : decode cX6_compares 62 = .ok (.getfield 45, 3) := by decide +kernel
theorem dX6_compares_65 : decode cX6_compares 65 = .ok (.if_icmp .le 7, 3) := by decide +kernel
theorem dX6_compares_68 : decode cX6_compares 68 = .ok (.iconst 1, 1) := by decide +kernel
theorem dX6_compares_69 : decode cX6_compares 69 = .ok (.goto 4, 3) := by decide +kernel
theorem dX6_compares_72 : decode cX6_compares 72 = .ok (.iconst 0, 1) := by decide +kernel
theorem dX6_compares_73 : decode cX6_compares 73 = .ok (.ireturn, 1) := by decide +kernel
theorem dX6_addUnit_0 : decode cX6_addUnit 0 = .ok (.iload_n 1, 1) := by decide +kernel
theorem dX6_addUnit_1 : decode cX6_addUnit 1 = .ok (.ifCond .ne 14, 3) := by decide +kernel
theorem dX6_addUnit_4 : decode cX6_addUnit 4 = .ok (.aload_n 0, 1) := by decide +kernel
theorem dX6_addUnit_5 : decode cX6_addUnit 5 = .ok (.aload_n 0, 1) := by decide +kernel
theorem dX6_addUnit_6 : decode cX6_addUnit 6 = .ok (.getfield 13, 3) := by decide +kernel
theorem dX6_addUnit_9 : decode cX6_addUnit 9 = .ok (.bipush (-2), 2) := by decide +kernel
theorem dX6_addUnit_11 : decode cX6_addUnit 11 = .ok (.iand, 1) := by decide +kernel
theorem dX6_addUnit_12 : decode cX6_addUnit 12 = .ok (.putfield 13, 3) := by decide +kernel
theorem dX6_addUnit_15 : decode cX6_addUnit 15 = .ok (.return_, 1) := by decide +kernel
theorem dX6_endPart_0 : decode cX6_endPart 0 = .ok (.aload_n 0, 1) := by decide +kernel
theorem dX6_endPart_1 : decode cX6_endPart 1 = .ok (.aload_n 0, 1) := by decide +kernel
theorem dX6_endPart_2 : decode cX6_endPart 2 = .ok (.getfield 7, 3) := by decide +kernel
theorem dX6_endPart_5 : decode cX6_endPart 5 = .ok (.aload_n 0, 1) := by decide +kernel
theorem dX6_endPart_6 : decode cX6_endPart 6 = .ok (.getfield 13, 3) := by decide +kernel
theorem dX6_endPart_9 : decode cX6_endPart 9 = .ok (.iconst 1, 1) := by decide +kernel
theorem dX6_endPart_10 : decode cX6_endPart 10 = .ok (.iand, 1) := by decide +kernel
theorem dX6_endPart_11 : decode cX6_endPart 11 = .ok (.ior, 1) := by decide +kernel
theorem dX6_endPart_12 : decode cX6_endPart 12 = .ok (.putfield 7, 3) := by decide +kernel
theorem dX6_endPart_15 : decode cX6_endPart 15 = .ok (.aload_n 0, 1) := by decide +kernel
theorem dX6_endPart_16 : decode cX6_endPart 16 = .ok (.aload_n 0, 1) := by decide +kernel
theorem dX6_endPart_17 : decode cX6_endPart 17 = .ok (.getfield 13, 3) := by decide +kernel
theorem dX6_endPart_20 : decode cX6_endPart 20 = .ok (.iconst 1, 1) := by decide +kernel
theorem dX6_endPart_21 : decode cX6_endPart 21 = .ok (.ior, 1) := by decide +kernel
theorem dX6_endPart_22 : decode cX6_endPart 22 = .ok (.putfield 13, 3) := by decide +kernel
theorem dX6_endPart_25 : decode cX6_endPart 25 = .ok (.return_, 1) := by decide +kernel
theorem dX6_endBracket_0 : decode cX6_endBracket 0 = .ok (.aload_n 0, 1) := by decide +kernel
theorem dX6_endBracket_1 : decode cX6_endBracket 1 = .ok (.invokevirtual 36, 3) := by decide +kernel
theorem dX6_endBracket_4 : decode cX6_endBracket 4 = .ok (.aload_n 0, 1) := by decide +kernel
theorem dX6_endBracket_5 : decode cX6_endBracket 5 = .ok (.getfield 7, 3) := by decide +kernel
theorem dX6_endBracket_8 : decode cX6_endBracket 8 = .ok (.iconst 1, 1) := by decide +kernel
theorem dX6_endBracket_9 : decode cX6_endBracket 9 = .ok (.iand, 1) := by decide +kernel
theorem dX6_endBracket_10 : decode cX6_endBracket 10 = .ok (.iconst 1, 1) := by decide +kernel
theorem dX6_endBracket_11 : decode cX6_endBracket 11 = .ok (.if_icmp .ne 7, 3) := by decide +kernel
theorem dX6_endBracket_14 : decode cX6_endBracket 14 = .ok (.iconst 1, 1) := by decide +kernel
theorem dX6_endBracket_15 : decode cX6_endBracket 15 = .ok (.goto 4, 3) := by decide +kernel
theorem dX6_endBracket_18 : decode cX6_endBracket 18 = .ok (.iconst 0, 1) := by decide +kernel
theorem dX6_endBracket_19 : decode cX6_endBracket 19 = .ok (.istore_n 1, 1) := by decide +kernel
theorem dX6_endBracket_20 : decode cX6_endBracket 20 = .ok (.aload_n 0, 1) := by decide +kernel
theorem dX6_endBracket_21 : decode cX6_endBracket 21 = .ok (.aload_n 0, 1) := by decide +kernel
theorem dX6_endBracket_22 : decode cX6_endBracket 22 = .ok (.getfield 7, 3) := by decide +kernel
theorem dX6_endBracket_25 : decode cX6_endBracket 25 = .ok (.iconst 1, 1) := by decide +kernel
theorem dX6_endBracket_26 : decode cX6_endBracket 26 = .ok (.iushr, 1) := by decide +kernel
theorem dX6_endBracket_27 : decode cX6_endBracket 27 = .ok (.putfield 7, 3) := by decide +kernel
theorem dX6_endBracket_30 : decode cX6_endBracket 30 = .ok (.aload_n 0, 1) := by decide +kernel
theorem dX6_endBracket_31 : decode cX6_endBracket 31 = .ok (.aload_n 0, 1) := by decide +kernel
theorem dX6_endBracket_32 : decode cX6_endBracket 32 = .ok (.getfield 13, 3) := by decide +kernel
theorem dX6_endBracket_35 : decode cX6_endBracket 35 = .ok (.iconst 1, 1) := by decide +kernel
theorem dX6_endBracket_36 : decode cX6_endBracket 36 = .ok (.iushr, 1) := by decide +kernel
theorem dX6_endBracket_37 : decode cX6_endBracket 37 = .ok (.putfield 13, 3) := by decide +kernel
theorem dX6_endBracket_40 : decode cX6_endBracket 40 = .ok (.aload_n 0, 1) := by decide +kernel
theorem dX6_endBracket_41 : decode cX6_endBracket 41 = .ok (.iload_n 1, 1) := by decide +kernel
theorem dX6_endBracket_42 : decode cX6_endBracket 42 = .ok (.invokevirtual 63, 3) := by decide +kernel
theorem dX6_endBracket_45 : decode cX6_endBracket 45 = .ok (.return_, 1) := by decide +kernel
theorem dX7_init_0 : decode cX7_init 0 = .ok (.aload_n 0, 1) := by decide +kernel
theorem dX7_init_1 : decode cX7_init 1 = .ok (.invokespecial 3, 3) := by decide +kernel
theorem dX7_init_4 : decode cX7_init 4 = .ok (.aload_n 0, 1) := by decide +kernel
theorem dX7_init_5 : decode cX7_init 5 = .ok (.bipush 6, 2) := by decide +kernel
theorem dX7_init_7 : decode cX7_init 7 = .ok (.newarray .int, 2) := by decide +kernel
theorem dX7_init_9 : decode cX7_init 9 = .ok (.putfield 9, 3) := by decide +kernel
theorem dX7_init_12 : decode cX7_init 12 = .ok (.aload_n 0, 1) := by decide +kernel
theorem dX7_init_13 : decode cX7_init 13 = .ok (.iload_n 1, 1) := by decide +kernel
theorem dX7_init_14 : decode cX7_init 14 = .ok (.bipush 6, 2) := by decide +kernel
theorem dX7_init_16 : decode cX7_init 16 = .ok (.invokestatic 15, 3) := by decide +kernel
theorem dX7_init_19 : decode cX7_init 19 = .ok (.putfield 21, 3) := by decide +kernel
theorem dX7_init_22 : decode cX7_init 22 = .ok (.aload_n 0, 1) := by decide +kernel
theorem dX7_init_23 : decode cX7_init 23 = .ok (.iload_n 2, 1) := by decide +kernel
theorem dX7_init_24 : decode cX7_init 24 = .ok (.putfield 25, 3) := by decide +kernel
theorem dX7_init_27 : decode cX7_init 27 = .ok (.return_, 1) := by decide +kernel
theorem dX7_beginDay_0 : decode cX7_beginDay 0 = .ok (.aload_n 0, 1) := by decide +kernel
theorem dX7_beginDay_1 : decode cX7_beginDay 1 = .ok (.aload_n 0, 1) := by decide +kernel
theorem dX7_beginDay_2 : decode cX7_beginDay 2 = .ok (.getfield 25, 3) := by decide +kernel
theorem dX7_beginDay_5 : decode cX7_beginDay 5 = .ok (.putfield 28, 3) := by decide +kernel
theorem dX7_beginDay_8 : decode cX7_beginDay 8 = .ok (.iconst 0, 1) := by decide +kernel
theorem dX7_beginDay_9 : decode cX7_beginDay 9 = .ok (.istore_n 1, 1) := by decide +kernel
theorem dX7_beginDay_10 : decode cX7_beginDay 10 = .ok (.iload_n 1, 1) := by decide +kernel
theorem dX7_beginDay_11 : decode cX7_beginDay 11 = .ok (.bipush 6, 2) := by decide +kernel
theorem dX7_beginDay_13 : decode cX7_beginDay 13 = .ok (.if_icmp .ge 16, 3) := by decide +kernel
theorem dX7_beginDay_16 : decode cX7_beginDay 16 = .ok (.aload_n 0, 1) := by decide +kernel
theorem dX7_beginDay_17 : decode cX7_beginDay 17 = .ok (.getfield 9, 3) := by decide +kernel
theorem dX7_beginDay_20 : decode cX7_beginDay 20 = .ok (.iload_n 1, 1) := by decide +kernel
theorem dX7_beginDay_21 : decode cX7_beginDay 21 = .ok (.iconst 0, 1) := by decide +kernel
theorem dX7_beginDay_22 : decode cX7_beginDay 22 = .ok (.iastore, 1) := by decide +kernel
theorem dX7_beginDay_23 : decode cX7_beginDay 23 = .ok (.iinc 1 1, 3) := by decide +kernel
theorem dX7_beginDay_26 : decode cX7_beginDay 26 = .ok (.goto (-16), 3) := by decide +kernel
theorem dX7_beginDay_29 : decode cX7_beginDay 29 = .ok (.return_, 1) := by decide +kernel
theorem dX7_gut_0 : decode cX7_gut 0 = .ok (.iconst 0, 1) := by decide +kernel
theorem dX7_gut_1 : decode cX7_gut 1 = .ok (.istore_n 3, 1) := by decide +kernel
theorem dX7_gut_2 : decode cX7_gut 2 = .ok (.iload_n 3, 1) := by decide +kernel
theorem dX7_gut_3 : decode cX7_gut 3 = .ok (.aload_n 1, 1) := by decide +kernel
theorem dX7_gut_4 : decode cX7_gut 4 = .ok (.getfield 31, 3) := by decide +kernel
theorem dX7_gut_7 : decode cX7_gut 7 = .ok (.if_icmp .ge 63, 3) := by decide +kernel
theorem dX7_gut_10 : decode cX7_gut 10 = .ok (.aload_n 0, 1) := by decide +kernel
theorem dX7_gut_11 : decode cX7_gut 11 = .ok (.invokevirtual 36, 3) := by decide +kernel
theorem dX7_gut_14 : decode cX7_gut 14 = .ok (.istore 4, 2) := by decide +kernel
theorem dX7_gut_16 : decode cX7_gut 16 = .ok (.aload_n 0, 1) := by decide +kernel
theorem dX7_gut_17 : decode cX7_gut 17 = .ok (.getfield 9, 3) := by decide +kernel
theorem dX7_gut_20 : decode cX7_gut 20 = .ok (.iload 4, 2) := by decide +kernel
theorem dX7_gut_22 : decode cX7_gut 22 = .ok (.iaload, 1) := by decide +kernel
theorem dX7_gut_23 : decode cX7_gut 23 = .ok (.aload_n 1, 1) := by decide +kernel
theorem dX7_gut_24 : decode cX7_gut 24 = .ok (.getfield 40, 3) := by decide +kernel
theorem dX7_gut_27 : decode cX7_gut 27 = .ok (.invokestatic 43, 3) := by decide +kernel
theorem dX7_gut_30 : decode cX7_gut 30 = .ok (.istore 5, 2) := by decide +kernel
theorem dX7_gut_32 : decode cX7_gut 32 = .ok (.iload 5, 2) := by decide +kernel
theorem dX7_gut_34 : decode cX7_gut 34 = .ok (.aload_n 1, 1) := by decide +kernel
theorem dX7_gut_35 : decode cX7_gut 35 = .ok (.getfield 40, 3) := by decide +kernel
theorem dX7_gut_38 : decode cX7_gut 38 = .ok (.isub, 1) := by decide +kernel
theorem dX7_gut_39 : decode cX7_gut 39 = .ok (.iload_n 2, 1) := by decide +kernel
theorem dX7_gut_40 : decode cX7_gut 40 = .ok (.if_icmp .le 6, 3) := by decide +kernel
theorem dX7_gut_43 : decode cX7_gut 43 = .ok (.goto 27, 3) := by decide +kernel
theorem dX7_gut_46 : decode cX7_gut 46 = .ok (.aload_n 0, 1) := by decide +kernel
theorem dX7_gut_47 : decode cX7_gut 47 = .ok (.getfield 9, 3) := by decide +kernel
theorem dX7_gut_50 : decode cX7_gut 50 = .ok (.iload 4, 2) := by decide +kernel
theorem dX7_gut_52 : decode cX7_gut 52 = .ok (.iload 5, 2) := by decide +kernel
theorem dX7_gut_54 : decode cX7_gut 54 = .ok (.bipush 12, 2) := by decide +kernel
theorem dX7_gut_56 : decode cX7_gut 56 = .ok (.iadd, 1) := by decide +kernel
theorem dX7_gut_57 : decode cX7_gut 57 = .ok (.iastore, 1) := by decide +kernel
theorem dX7_gut_58 : decode cX7_gut 58 = .ok (.aload_n 1, 1) := by decide +kernel
theorem dX7_gut_59 : decode cX7_gut 59 = .ok (.iload 5, 2) := by decide +kernel
theorem dX7_gut_61 : decode cX7_gut 61 = .ok (.invokevirtual 46, 3) := by decide +kernel
theorem dX7_gut_64 : decode cX7_gut 64 = .ok (.iinc 3 1, 3) := by decide +kernel
theorem dX7_gut_67 : decode cX7_gut 67 = .ok (.goto (-65), 3) := by decide +kernel
theorem dX7_gut_70 : decode cX7_gut 70 = .ok (.aload_n 1, 1) := by decide +kernel
theorem dX7_gut_71 : decode cX7_gut 71 = .ok (.aload_n 1, 1) := by decide +kernel
theorem dX7_gut_72 : decode cX7_gut 72 = .ok (.getfield 31, 3) := by decide +kernel
theorem dX7_gut_75 : decode cX7_gut 75 = .ok (.aload_n 1, 1) := by decide +kernel
theorem dX7_gut_76 : decode cX7_gut 76 = .ok (.getfield 50, 3) := by decide +kernel
theorem dX7_gut_79 : decode cX7_gut 79 = .ok (.isub, 1) := by decide +kernel
theorem dX7_gut_80 : decode cX7_gut 80 = .ok (.putfield 53, 3) := by decide +kernel
theorem dX7_gut_83 : decode cX7_gut 83 = .ok (.return_, 1) := by decide +kernel
theorem dX7_firstFreeCrew_0 : decode cX7_firstFreeCrew 0 = .ok (.iconst 0, 1) := by decide +kernel
theorem dX7_firstFreeCrew_1 : decode cX7_firstFreeCrew 1 = .ok (.istore_n 1, 1) := by decide +kernel
theorem dX7_firstFreeCrew_2 : decode cX7_firstFreeCrew 2 = .ok (.iconst 1, 1) := by decide +kernel
theorem dX7_firstFreeCrew_3 : decode cX7_firstFreeCrew 3 = .ok (.istore_n 2, 1) := by decide +kernel
theorem dX7_firstFreeCrew_4 : decode cX7_firstFreeCrew 4 = .ok (.iload_n 2, 1) := by decide +kernel
theorem dX7_firstFreeCrew_5 : decode cX7_firstFreeCrew 5 = .ok (.aload_n 0, 1) := by decide +kernel
theorem dX7_firstFreeCrew_6 : decode cX7_firstFreeCrew 6 = .ok (.getfield 21, 3) := by decide +kernel
theorem dX7_firstFreeCrew_9 : decode cX7_firstFreeCrew 9 = .ok (.if_icmp .ge 26, 3) := by decide +kernel
theorem dX7_firstFreeCrew_12 : decode cX7_firstFreeCrew 12 = .ok (.aload_n 0, 1) := by decide +kernel
theorem dX7_firstFreeCrew_13 : decode cX7_firstFreeCrew 13 = .ok (.getfield 9, 3) := by decide +kernel
theorem dX7_firstFreeCrew_16 : decode cX7_firstFreeCrew 16 = .ok (.iload_n 2, 1) := by decide +kernel
theorem dX7_firstFreeCrew_17 : decode cX7_firstFreeCrew 17 = .ok (.iaload, 1) := by decide +kernel
theorem dX7_firstFreeCrew_18 : decode cX7_firstFreeCrew 18 = .ok (.aload_n 0, 1) := by decide +kernel
theorem dX7_firstFreeCrew_19 : decode cX7_firstFreeCrew 19 = .ok (.getfield 9, 3) := by decide +kernel
theorem dX7_firstFreeCrew_22 : decode cX7_firstFreeCrew 22 = .ok (.iload_n 1, 1) := by decide +kernel
theorem dX7_firstFreeCrew_23 : decode cX7_firstFreeCrew 23 = .ok (.iaload, 1) := by decide +kernel
theorem dX7_firstFreeCrew_24 : decode cX7_firstFreeCrew 24 = .ok (.if_icmp .ge 5, 3) := by decide +kernel
theorem dX7_firstFreeCrew_27 : decode cX7_firstFreeCrew 27 = .ok (.iload_n 2, 1) := by decide +kernel
theorem dX7_firstFreeCrew_28 : decode cX7_firstFreeCrew 28 = .ok (.istore_n 1, 1) := by decide +kernel
theorem dX7_firstFreeCrew_29 : decode cX7_firstFreeCrew 29 = .ok (.iinc 2 1, 3) := by decide +kernel
theorem dX7_firstFreeCrew_32 : decode cX7_firstFreeCrew 32 = .ok (.goto (-28), 3) := by decide +kernel
theorem dX7_firstFreeCrew_35 : decode cX7_firstFreeCrew 35 = .ok (.iload_n 1, 1) := by decide +kernel
theorem dX7_firstFreeCrew_36 : decode cX7_firstFreeCrew 36 = .ok (.ireturn, 1) := by decide +kernel
