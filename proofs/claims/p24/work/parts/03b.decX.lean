theorem eX0_init_0 : (decode cX0_init 0 = .ok (.aload_n 0, 1)) ∧ (decode cX0_init 1 = .ok (.invokespecial 3, 3)) ∧ (decode cX0_init 4 = .ok (.aload_n 0, 1)) ∧ (decode cX0_init 5 = .ok (.bipush 50, 2)) ∧ (decode cX0_init 7 = .ok (.newarray .int, 2)) ∧ (decode cX0_init 9 = .ok (.putfield 9, 3)) ∧ (decode cX0_init 12 = .ok (.aload_n 0, 1)) ∧ (decode cX0_init 13 = .ok (.bipush 10, 2)) := by decide +kernel
theorem dX0_init_0 : decode cX0_init 0 = .ok (.aload_n 0, 1) := eX0_init_0.1
theorem dX0_init_1 : decode cX0_init 1 = .ok (.invokespecial 3, 3) := eX0_init_0.2.1
theorem dX0_init_4 : decode cX0_init 4 = .ok (.aload_n 0, 1) := eX0_init_0.2.2.1
theorem dX0_init_5 : decode cX0_init 5 = .ok (.bipush 50, 2) := eX0_init_0.2.2.2.1
theorem dX0_init_7 : decode cX0_init 7 = .ok (.newarray .int, 2) := eX0_init_0.2.2.2.2.1
theorem dX0_init_9 : decode cX0_init 9 = .ok (.putfield 9, 3) := eX0_init_0.2.2.2.2.2.1
theorem dX0_init_12 : decode cX0_init 12 = .ok (.aload_n 0, 1) := eX0_init_0.2.2.2.2.2.2.1
theorem dX0_init_13 : decode cX0_init 13 = .ok (.bipush 10, 2) := eX0_init_0.2.2.2.2.2.2.2
theorem eX0_init_8 : (decode cX0_init 15 = .ok (.newarray .int, 2)) ∧ (decode cX0_init 17 = .ok (.putfield 15, 3)) ∧ (decode cX0_init 20 = .ok (.aload_n 0, 1)) ∧ (decode cX0_init 21 = .ok (.bipush 20, 2)) ∧ (decode cX0_init 23 = .ok (.newarray .int, 2)) ∧ (decode cX0_init 25 = .ok (.putfield 18, 3)) ∧ (decode cX0_init 28 = .ok (.aload_n 0, 1)) ∧ (decode cX0_init 29 = .ok (.bipush 20, 2)) := by decide +kernel
theorem dX0_init_15 : decode cX0_init 15 = .ok (.newarray .int, 2) := eX0_init_8.1
theorem dX0_init_17 : decode cX0_init 17 = .ok (.putfield 15, 3) := eX0_init_8.2.1
theorem dX0_init_20 : decode cX0_init 20 = .ok (.aload_n 0, 1) := eX0_init_8.2.2.1
theorem dX0_init_21 : decode cX0_init 21 = .ok (.bipush 20, 2) := eX0_init_8.2.2.2.1
theorem dX0_init_23 : decode cX0_init 23 = .ok (.newarray .int, 2) := eX0_init_8.2.2.2.2.1
theorem dX0_init_25 : decode cX0_init 25 = .ok (.putfield 18, 3) := eX0_init_8.2.2.2.2.2.1
theorem dX0_init_28 : decode cX0_init 28 = .ok (.aload_n 0, 1) := eX0_init_8.2.2.2.2.2.2.1
theorem dX0_init_29 : decode cX0_init 29 = .ok (.bipush 20, 2) := eX0_init_8.2.2.2.2.2.2.2
theorem eX0_init_16 : (decode cX0_init 31 = .ok (.newarray .boolean, 2)) ∧ (decode cX0_init 33 = .ok (.putfield 21, 3)) ∧ (decode cX0_init 36 = .ok (.aload_n 0, 1)) ∧ (decode cX0_init 37 = .ok (.sipush 400, 3)) ∧ (decode cX0_init 40 = .ok (.newarray .int, 2)) ∧ (decode cX0_init 42 = .ok (.putfield 25, 3)) ∧ (decode cX0_init 45 = .ok (.aload_n 0, 1)) ∧ (decode cX0_init 46 = .ok (.iconst (-1), 1)) := by decide +kernel
theorem dX0_init_31 : decode cX0_init 31 = .ok (.newarray .boolean, 2) := eX0_init_16.1
theorem dX0_init_33 : decode cX0_init 33 = .ok (.putfield 21, 3) := eX0_init_16.2.1
theorem dX0_init_36 : decode cX0_init 36 = .ok (.aload_n 0, 1) := eX0_init_16.2.2.1
theorem dX0_init_37 : decode cX0_init 37 = .ok (.sipush 400, 3) := eX0_init_16.2.2.2.1
theorem dX0_init_40 : decode cX0_init 40 = .ok (.newarray .int, 2) := eX0_init_16.2.2.2.2.1
theorem dX0_init_42 : decode cX0_init 42 = .ok (.putfield 25, 3) := eX0_init_16.2.2.2.2.2.1
theorem dX0_init_45 : decode cX0_init 45 = .ok (.aload_n 0, 1) := eX0_init_16.2.2.2.2.2.2.1
theorem dX0_init_46 : decode cX0_init 46 = .ok (.iconst (-1), 1) := eX0_init_16.2.2.2.2.2.2.2
theorem eX0_init_24 : (decode cX0_init 47 = .ok (.putfield 28, 3)) ∧ (decode cX0_init 50 = .ok (.aload_n 0, 1)) ∧ (decode cX0_init 51 = .ok (.aload_n 1, 1)) ∧ (decode cX0_init 52 = .ok (.putfield 32, 3)) ∧ (decode cX0_init 55 = .ok (.aload_n 0, 1)) ∧ (decode cX0_init 56 = .ok (.aload_n 2, 1)) ∧ (decode cX0_init 57 = .ok (.putfield 36, 3)) ∧ (decode cX0_init 60 = .ok (.aload_n 0, 1)) := by decide +kernel
theorem dX0_init_47 : decode cX0_init 47 = .ok (.putfield 28, 3) := eX0_init_24.1
theorem dX0_init_50 : decode cX0_init 50 = .ok (.aload_n 0, 1) := eX0_init_24.2.1
theorem dX0_init_51 : decode cX0_init 51 = .ok (.aload_n 1, 1) := eX0_init_24.2.2.1
theorem dX0_init_52 : decode cX0_init 52 = .ok (.putfield 32, 3) := eX0_init_24.2.2.2.1
theorem dX0_init_55 : decode cX0_init 55 = .ok (.aload_n 0, 1) := eX0_init_24.2.2.2.2.1
theorem dX0_init_56 : decode cX0_init 56 = .ok (.aload_n 2, 1) := eX0_init_24.2.2.2.2.2.1
theorem dX0_init_57 : decode cX0_init 57 = .ok (.putfield 36, 3) := eX0_init_24.2.2.2.2.2.2.1
theorem dX0_init_60 : decode cX0_init 60 = .ok (.aload_n 0, 1) := eX0_init_24.2.2.2.2.2.2.2
theorem eX0_init_32 : (decode cX0_init 61 = .ok (.aload_n 3, 1)) ∧ (decode cX0_init 62 = .ok (.putfield 40, 3)) ∧ (decode cX0_init 65 = .ok (.return_, 1)) := by decide +kernel
theorem dX0_init_61 : decode cX0_init 61 = .ok (.aload_n 3, 1) := eX0_init_32.1
theorem dX0_init_62 : decode cX0_init 62 = .ok (.putfield 40, 3) := eX0_init_32.2.1
theorem dX0_init_65 : decode cX0_init 65 = .ok (.return_, 1) := eX0_init_32.2.2
theorem eX0_sumIn_0 : (decode cX0_sumIn 0 = .ok (.iload_n 1, 1)) ∧ (decode cX0_sumIn 1 = .ok (.ifCond .lt 27, 3)) ∧ (decode cX0_sumIn 4 = .ok (.iload_n 1, 1)) ∧ (decode cX0_sumIn 5 = .ok (.aload_n 0, 1)) ∧ (decode cX0_sumIn 6 = .ok (.getfield 28, 3)) ∧ (decode cX0_sumIn 9 = .ok (.if_icmp .ge 19, 3)) ∧ (decode cX0_sumIn 12 = .ok (.iload_n 1, 1)) ∧ (decode cX0_sumIn 13 = .ok (.bipush 20, 2)) := by decide +kernel
theorem dX0_sumIn_0 : decode cX0_sumIn 0 = .ok (.iload_n 1, 1) := eX0_sumIn_0.1
theorem dX0_sumIn_1 : decode cX0_sumIn 1 = .ok (.ifCond .lt 27, 3) := eX0_sumIn_0.2.1
theorem dX0_sumIn_4 : decode cX0_sumIn 4 = .ok (.iload_n 1, 1) := eX0_sumIn_0.2.2.1
theorem dX0_sumIn_5 : decode cX0_sumIn 5 = .ok (.aload_n 0, 1) := eX0_sumIn_0.2.2.2.1
theorem dX0_sumIn_6 : decode cX0_sumIn 6 = .ok (.getfield 28, 3) := eX0_sumIn_0.2.2.2.2.1
theorem dX0_sumIn_9 : decode cX0_sumIn 9 = .ok (.if_icmp .ge 19, 3) := eX0_sumIn_0.2.2.2.2.2.1
theorem dX0_sumIn_12 : decode cX0_sumIn 12 = .ok (.iload_n 1, 1) := eX0_sumIn_0.2.2.2.2.2.2.1
theorem dX0_sumIn_13 : decode cX0_sumIn 13 = .ok (.bipush 20, 2) := eX0_sumIn_0.2.2.2.2.2.2.2
theorem eX0_sumIn_8 : (decode cX0_sumIn 15 = .ok (.if_icmp .ge 13, 3)) ∧ (decode cX0_sumIn 18 = .ok (.iload_n 2, 1)) ∧ (decode cX0_sumIn 19 = .ok (.ifCond .lt 9, 3)) ∧ (decode cX0_sumIn 22 = .ok (.iload_n 2, 1)) ∧ (decode cX0_sumIn 23 = .ok (.bipush 20, 2)) ∧ (decode cX0_sumIn 25 = .ok (.if_icmp .lt 5, 3)) ∧ (decode cX0_sumIn 28 = .ok (.iconst (-1), 1)) ∧ (decode cX0_sumIn 29 = .ok (.ireturn, 1)) := by decide +kernel
theorem dX0_sumIn_15 : decode cX0_sumIn 15 = .ok (.if_icmp .ge 13, 3) := eX0_sumIn_8.1
theorem dX0_sumIn_18 : decode cX0_sumIn 18 = .ok (.iload_n 2, 1) := eX0_sumIn_8.2.1
theorem dX0_sumIn_19 : decode cX0_sumIn 19 = .ok (.ifCond .lt 9, 3) := eX0_sumIn_8.2.2.1
theorem dX0_sumIn_22 : decode cX0_sumIn 22 = .ok (.iload_n 2, 1) := eX0_sumIn_8.2.2.2.1
theorem dX0_sumIn_23 : decode cX0_sumIn 23 = .ok (.bipush 20, 2) := eX0_sumIn_8.2.2.2.2.1
theorem dX0_sumIn_25 : decode cX0_sumIn 25 = .ok (.if_icmp .lt 5, 3) := eX0_sumIn_8.2.2.2.2.2.1
theorem dX0_sumIn_28 : decode cX0_sumIn 28 = .ok (.iconst (-1), 1) := eX0_sumIn_8.2.2.2.2.2.2.1
theorem dX0_sumIn_29 : decode cX0_sumIn 29 = .ok (.ireturn, 1) := eX0_sumIn_8.2.2.2.2.2.2.2
theorem eX0_sumIn_16 : (decode cX0_sumIn 30 = .ok (.aload_n 0, 1)) ∧ (decode cX0_sumIn 31 = .ok (.getfield 25, 3)) ∧ (decode cX0_sumIn 34 = .ok (.iload_n 1, 1)) ∧ (decode cX0_sumIn 35 = .ok (.bipush 20, 2)) ∧ (decode cX0_sumIn 37 = .ok (.imul, 1)) ∧ (decode cX0_sumIn 38 = .ok (.iload_n 2, 1)) ∧ (decode cX0_sumIn 39 = .ok (.iadd, 1)) ∧ (decode cX0_sumIn 40 = .ok (.iaload, 1)) := by decide +kernel
theorem dX0_sumIn_30 : decode cX0_sumIn 30 = .ok (.aload_n 0, 1) := eX0_sumIn_16.1
theorem dX0_sumIn_31 : decode cX0_sumIn 31 = .ok (.getfield 25, 3) := eX0_sumIn_16.2.1
theorem dX0_sumIn_34 : decode cX0_sumIn 34 = .ok (.iload_n 1, 1) := eX0_sumIn_16.2.2.1
theorem dX0_sumIn_35 : decode cX0_sumIn 35 = .ok (.bipush 20, 2) := eX0_sumIn_16.2.2.2.1
theorem dX0_sumIn_37 : decode cX0_sumIn 37 = .ok (.imul, 1) := eX0_sumIn_16.2.2.2.2.1
theorem dX0_sumIn_38 : decode cX0_sumIn 38 = .ok (.iload_n 2, 1) := eX0_sumIn_16.2.2.2.2.2.1
theorem dX0_sumIn_39 : decode cX0_sumIn 39 = .ok (.iadd, 1) := eX0_sumIn_16.2.2.2.2.2.2.1
theorem dX0_sumIn_40 : decode cX0_sumIn 40 = .ok (.iaload, 1) := eX0_sumIn_16.2.2.2.2.2.2.2
theorem dX0_sumIn_41 : decode cX0_sumIn 41 = .ok (.ireturn, 1) := by decide +kernel
theorem eX0_decide_0 : (decode cX0_decide 0 = .ok (.aload_n 0, 1)) ∧ (decode cX0_decide 1 = .ok (.iconst 0, 1)) ∧ (decode cX0_decide 2 = .ok (.putfield 28, 3)) ∧ (decode cX0_decide 5 = .ok (.aload_n 0, 1)) ∧ (decode cX0_decide 6 = .ok (.iload_n 1, 1)) ∧ (decode cX0_decide 7 = .ok (.invokevirtual 44, 3)) ∧ (decode cX0_decide 10 = .ok (.aload_n 0, 1)) ∧ (decode cX0_decide 11 = .ok (.getfield 40, 3)) := by decide +kernel
theorem dX0_decide_0 : decode cX0_decide 0 = .ok (.aload_n 0, 1) := eX0_decide_0.1
theorem dX0_decide_1 : decode cX0_decide 1 = .ok (.iconst 0, 1) := eX0_decide_0.2.1
theorem dX0_decide_2 : decode cX0_decide 2 = .ok (.putfield 28, 3) := eX0_decide_0.2.2.1
theorem dX0_decide_5 : decode cX0_decide 5 = .ok (.aload_n 0, 1) := eX0_decide_0.2.2.2.1
theorem dX0_decide_6 : decode cX0_decide 6 = .ok (.iload_n 1, 1) := eX0_decide_0.2.2.2.2.1
theorem dX0_decide_7 : decode cX0_decide 7 = .ok (.invokevirtual 44, 3) := eX0_decide_0.2.2.2.2.2.1
theorem dX0_decide_10 : decode cX0_decide 10 = .ok (.aload_n 0, 1) := eX0_decide_0.2.2.2.2.2.2.1
theorem dX0_decide_11 : decode cX0_decide 11 = .ok (.getfield 40, 3) := eX0_decide_0.2.2.2.2.2.2.2
theorem eX0_decide_8 : (decode cX0_decide 14 = .ok (.getfield 48, 3)) ∧ (decode cX0_decide 17 = .ok (.ifCond .le 10, 3)) ∧ (decode cX0_decide 20 = .ok (.aload_n 0, 1)) ∧ (decode cX0_decide 21 = .ok (.invokevirtual 53, 3)) ∧ (decode cX0_decide 24 = .ok (.goto 7, 3)) ∧ (decode cX0_decide 27 = .ok (.aload_n 0, 1)) ∧ (decode cX0_decide 28 = .ok (.invokevirtual 57, 3)) ∧ (decode cX0_decide 31 = .ok (.ireturn, 1)) := by decide +kernel
theorem dX0_decide_14 : decode cX0_decide 14 = .ok (.getfield 48, 3) := eX0_decide_8.1
theorem dX0_decide_17 : decode cX0_decide 17 = .ok (.ifCond .le 10, 3) := eX0_decide_8.2.1
theorem dX0_decide_20 : decode cX0_decide 20 = .ok (.aload_n 0, 1) := eX0_decide_8.2.2.1
theorem dX0_decide_21 : decode cX0_decide 21 = .ok (.invokevirtual 53, 3) := eX0_decide_8.2.2.2.1
theorem dX0_decide_24 : decode cX0_decide 24 = .ok (.goto 7, 3) := eX0_decide_8.2.2.2.2.1
theorem dX0_decide_27 : decode cX0_decide 27 = .ok (.aload_n 0, 1) := eX0_decide_8.2.2.2.2.2.1
theorem dX0_decide_28 : decode cX0_decide 28 = .ok (.invokevirtual 57, 3) := eX0_decide_8.2.2.2.2.2.2.1
theorem dX0_decide_31 : decode cX0_decide 31 = .ok (.ireturn, 1) := eX0_decide_8.2.2.2.2.2.2.2
theorem eX0_gather_0 : (decode cX0_gather 0 = .ok (.iconst 0, 1)) ∧ (decode cX0_gather 1 = .ok (.istore_n 2, 1)) ∧ (decode cX0_gather 2 = .ok (.iload_n 2, 1)) ∧ (decode cX0_gather 3 = .ok (.bipush 20, 2)) ∧ (decode cX0_gather 5 = .ok (.if_icmp .ge 23, 3)) ∧ (decode cX0_gather 8 = .ok (.aload_n 0, 1)) ∧ (decode cX0_gather 9 = .ok (.getfield 21, 3)) ∧ (decode cX0_gather 12 = .ok (.iload_n 2, 1)) := by decide +kernel
theorem dX0_gather_0 : decode cX0_gather 0 = .ok (.iconst 0, 1) := eX0_gather_0.1
theorem dX0_gather_1 : decode cX0_gather 1 = .ok (.istore_n 2, 1) := eX0_gather_0.2.1
theorem dX0_gather_2 : decode cX0_gather 2 = .ok (.iload_n 2, 1) := eX0_gather_0.2.2.1
theorem dX0_gather_3 : decode cX0_gather 3 = .ok (.bipush 20, 2) := eX0_gather_0.2.2.2.1
theorem dX0_gather_5 : decode cX0_gather 5 = .ok (.if_icmp .ge 23, 3) := eX0_gather_0.2.2.2.2.1
theorem dX0_gather_8 : decode cX0_gather 8 = .ok (.aload_n 0, 1) := eX0_gather_0.2.2.2.2.2.1
theorem dX0_gather_9 : decode cX0_gather 9 = .ok (.getfield 21, 3) := eX0_gather_0.2.2.2.2.2.2.1
theorem dX0_gather_12 : decode cX0_gather 12 = .ok (.iload_n 2, 1) := eX0_gather_0.2.2.2.2.2.2.2
theorem eX0_gather_8 : (decode cX0_gather 13 = .ok (.iconst 0, 1)) ∧ (decode cX0_gather 14 = .ok (.bastore, 1)) ∧ (decode cX0_gather 15 = .ok (.aload_n 0, 1)) ∧ (decode cX0_gather 16 = .ok (.getfield 18, 3)) ∧ (decode cX0_gather 19 = .ok (.iload_n 2, 1)) ∧ (decode cX0_gather 20 = .ok (.iconst 0, 1)) ∧ (decode cX0_gather 21 = .ok (.iastore, 1)) ∧ (decode cX0_gather 22 = .ok (.iinc 2 1, 3)) := by decide +kernel
theorem dX0_gather_13 : decode cX0_gather 13 = .ok (.iconst 0, 1) := eX0_gather_8.1
theorem dX0_gather_14 : decode cX0_gather 14 = .ok (.bastore, 1) := eX0_gather_8.2.1
theorem dX0_gather_15 : decode cX0_gather 15 = .ok (.aload_n 0, 1) := eX0_gather_8.2.2.1
theorem dX0_gather_16 : decode cX0_gather 16 = .ok (.getfield 18, 3) := eX0_gather_8.2.2.2.1
theorem dX0_gather_19 : decode cX0_gather 19 = .ok (.iload_n 2, 1) := eX0_gather_8.2.2.2.2.1
theorem dX0_gather_20 : decode cX0_gather 20 = .ok (.iconst 0, 1) := eX0_gather_8.2.2.2.2.2.1
theorem dX0_gather_21 : decode cX0_gather 21 = .ok (.iastore, 1) := eX0_gather_8.2.2.2.2.2.2.1
theorem dX0_gather_22 : decode cX0_gather 22 = .ok (.iinc 2 1, 3) := eX0_gather_8.2.2.2.2.2.2.2
theorem eX0_gather_16 : (decode cX0_gather 25 = .ok (.goto (-23), 3)) ∧ (decode cX0_gather 28 = .ok (.iconst 0, 1)) ∧ (decode cX0_gather 29 = .ok (.istore_n 2, 1)) ∧ (decode cX0_gather 30 = .ok (.iload_n 2, 1)) ∧ (decode cX0_gather 31 = .ok (.aload_n 0, 1)) ∧ (decode cX0_gather 32 = .ok (.getfield 36, 3)) ∧ (decode cX0_gather 35 = .ok (.getfield 60, 3)) ∧ (decode cX0_gather 38 = .ok (.if_icmp .ge 119, 3)) := by decide +kernel
theorem dX0_gather_25 : decode cX0_gather 25 = .ok (.goto (-23), 3) := eX0_gather_16.1
theorem dX0_gather_28 : decode cX0_gather 28 = .ok (.iconst 0, 1) := eX0_gather_16.2.1
theorem dX0_gather_29 : decode cX0_gather 29 = .ok (.istore_n 2, 1) := eX0_gather_16.2.2.1
theorem dX0_gather_30 : decode cX0_gather 30 = .ok (.iload_n 2, 1) := eX0_gather_16.2.2.2.1
theorem dX0_gather_31 : decode cX0_gather 31 = .ok (.aload_n 0, 1) := eX0_gather_16.2.2.2.2.1
theorem dX0_gather_32 : decode cX0_gather 32 = .ok (.getfield 36, 3) := eX0_gather_16.2.2.2.2.2.1
theorem dX0_gather_35 : decode cX0_gather 35 = .ok (.getfield 60, 3) := eX0_gather_16.2.2.2.2.2.2.1
theorem dX0_gather_38 : decode cX0_gather 38 = .ok (.if_icmp .ge 119, 3) := eX0_gather_16.2.2.2.2.2.2.2
theorem eX0_gather_24 : (decode cX0_gather 41 = .ok (.iconst 0, 1)) ∧ (decode cX0_gather 42 = .ok (.istore_n 3, 1)) ∧ (decode cX0_gather 43 = .ok (.iconst 0, 1)) ∧ (decode cX0_gather 44 = .ok (.istore 4, 2)) ∧ (decode cX0_gather 46 = .ok (.iload 4, 2)) ∧ (decode cX0_gather 48 = .ok (.aload_n 0, 1)) ∧ (decode cX0_gather 49 = .ok (.getfield 36, 3)) ∧ (decode cX0_gather 52 = .ok (.getfield 65, 3)) := by decide +kernel
theorem dX0_gather_41 : decode cX0_gather 41 = .ok (.iconst 0, 1) := eX0_gather_24.1
theorem dX0_gather_42 : decode cX0_gather 42 = .ok (.istore_n 3, 1) := eX0_gather_24.2.1
theorem dX0_gather_43 : decode cX0_gather 43 = .ok (.iconst 0, 1) := eX0_gather_24.2.2.1
theorem dX0_gather_44 : decode cX0_gather 44 = .ok (.istore 4, 2) := eX0_gather_24.2.2.2.1
theorem dX0_gather_46 : decode cX0_gather 46 = .ok (.iload 4, 2) := eX0_gather_24.2.2.2.2.1
theorem dX0_gather_48 : decode cX0_gather 48 = .ok (.aload_n 0, 1) := eX0_gather_24.2.2.2.2.2.1
theorem dX0_gather_49 : decode cX0_gather 49 = .ok (.getfield 36, 3) := eX0_gather_24.2.2.2.2.2.2.1
theorem dX0_gather_52 : decode cX0_gather 52 = .ok (.getfield 65, 3) := eX0_gather_24.2.2.2.2.2.2.2
theorem eX0_gather_32 : (decode cX0_gather 55 = .ok (.iload_n 2, 1)) ∧ (decode cX0_gather 56 = .ok (.iaload, 1)) ∧ (decode cX0_gather 57 = .ok (.if_icmp .ge 66, 3)) ∧ (decode cX0_gather 60 = .ok (.aload_n 0, 1)) ∧ (decode cX0_gather 61 = .ok (.getfield 36, 3)) ∧ (decode cX0_gather 64 = .ok (.getfield 68, 3)) ∧ (decode cX0_gather 67 = .ok (.iload_n 2, 1)) ∧ (decode cX0_gather 68 = .ok (.iconst 5, 1)) := by decide +kernel
theorem dX0_gather_55 : decode cX0_gather 55 = .ok (.iload_n 2, 1) := eX0_gather_32.1
theorem dX0_gather_56 : decode cX0_gather 56 = .ok (.iaload, 1) := eX0_gather_32.2.1
theorem dX0_gather_57 : decode cX0_gather 57 = .ok (.if_icmp .ge 66, 3) := eX0_gather_32.2.2.1
theorem dX0_gather_60 : decode cX0_gather 60 = .ok (.aload_n 0, 1) := eX0_gather_32.2.2.2.1
theorem dX0_gather_61 : decode cX0_gather 61 = .ok (.getfield 36, 3) := eX0_gather_32.2.2.2.2.1
theorem dX0_gather_64 : decode cX0_gather 64 = .ok (.getfield 68, 3) := eX0_gather_32.2.2.2.2.2.1
theorem dX0_gather_67 : decode cX0_gather 67 = .ok (.iload_n 2, 1) := eX0_gather_32.2.2.2.2.2.2.1
theorem dX0_gather_68 : decode cX0_gather 68 = .ok (.iconst 5, 1) := eX0_gather_32.2.2.2.2.2.2.2
theorem eX0_gather_40 : (decode cX0_gather 69 = .ok (.imul, 1)) ∧ (decode cX0_gather 70 = .ok (.iload 4, 2)) ∧ (decode cX0_gather 72 = .ok (.iadd, 1)) ∧ (decode cX0_gather 73 = .ok (.iaload, 1)) ∧ (decode cX0_gather 74 = .ok (.istore 5, 2)) ∧ (decode cX0_gather 76 = .ok (.aload_n 0, 1)) ∧ (decode cX0_gather 77 = .ok (.getfield 36, 3)) ∧ (decode cX0_gather 80 = .ok (.aload_n 0, 1)) := by decide +kernel
theorem dX0_gather_69 : decode cX0_gather 69 = .ok (.imul, 1) := eX0_gather_40.1
theorem dX0_gather_70 : decode cX0_gather 70 = .ok (.iload 4, 2) := eX0_gather_40.2.1
theorem dX0_gather_72 : decode cX0_gather 72 = .ok (.iadd, 1) := eX0_gather_40.2.2.1
theorem dX0_gather_73 : decode cX0_gather 73 = .ok (.iaload, 1) := eX0_gather_40.2.2.2.1
theorem dX0_gather_74 : decode cX0_gather 74 = .ok (.istore 5, 2) := eX0_gather_40.2.2.2.2.1
theorem dX0_gather_76 : decode cX0_gather 76 = .ok (.aload_n 0, 1) := eX0_gather_40.2.2.2.2.2.1
theorem dX0_gather_77 : decode cX0_gather 77 = .ok (.getfield 36, 3) := eX0_gather_40.2.2.2.2.2.2.1
theorem dX0_gather_80 : decode cX0_gather 80 = .ok (.aload_n 0, 1) := eX0_gather_40.2.2.2.2.2.2.2
theorem eX0_gather_48 : (decode cX0_gather 81 = .ok (.getfield 40, 3)) ∧ (decode cX0_gather 84 = .ok (.iload_n 2, 1)) ∧ (decode cX0_gather 85 = .ok (.iload 5, 2)) ∧ (decode cX0_gather 87 = .ok (.iload_n 1, 1)) ∧ (decode cX0_gather 88 = .ok (.invokevirtual 71, 3)) ∧ (decode cX0_gather 91 = .ok (.ifCond .eq 26, 3)) ∧ (decode cX0_gather 94 = .ok (.aload_n 0, 1)) ∧ (decode cX0_gather 95 = .ok (.getfield 9, 3)) := by decide +kernel
theorem dX0_gather_81 : decode cX0_gather 81 = .ok (.getfield 40, 3) := eX0_gather_48.1
theorem dX0_gather_84 : decode cX0_gather 84 = .ok (.iload_n 2, 1) := eX0_gather_48.2.1
theorem dX0_gather_85 : decode cX0_gather 85 = .ok (.iload 5, 2) := eX0_gather_48.2.2.1
theorem dX0_gather_87 : decode cX0_gather 87 = .ok (.iload_n 1, 1) := eX0_gather_48.2.2.2.1
theorem dX0_gather_88 : decode cX0_gather 88 = .ok (.invokevirtual 71, 3) := eX0_gather_48.2.2.2.2.1
theorem dX0_gather_91 : decode cX0_gather 91 = .ok (.ifCond .eq 26, 3) := eX0_gather_48.2.2.2.2.2.1
theorem dX0_gather_94 : decode cX0_gather 94 = .ok (.aload_n 0, 1) := eX0_gather_48.2.2.2.2.2.2.1
theorem dX0_gather_95 : decode cX0_gather 95 = .ok (.getfield 9, 3) := eX0_gather_48.2.2.2.2.2.2.2
theorem eX0_gather_56 : (decode cX0_gather 98 = .ok (.iload_n 2, 1)) ∧ (decode cX0_gather 99 = .ok (.iconst 5, 1)) ∧ (decode cX0_gather 100 = .ok (.imul, 1)) ∧ (decode cX0_gather 101 = .ok (.iload_n 3, 1)) ∧ (decode cX0_gather 102 = .ok (.iadd, 1)) ∧ (decode cX0_gather 103 = .ok (.iload 5, 2)) ∧ (decode cX0_gather 105 = .ok (.iastore, 1)) ∧ (decode cX0_gather 106 = .ok (.iinc 3 1, 3)) := by decide +kernel
theorem dX0_gather_98 : decode cX0_gather 98 = .ok (.iload_n 2, 1) := eX0_gather_56.1
theorem dX0_gather_99 : decode cX0_gather 99 = .ok (.iconst 5, 1) := eX0_gather_56.2.1
theorem dX0_gather_100 : decode cX0_gather 100 = .ok (.imul, 1) := eX0_gather_56.2.2.1
theorem dX0_gather_101 : decode cX0_gather 101 = .ok (.iload_n 3, 1) := eX0_gather_56.2.2.2.1
theorem dX0_gather_102 : decode cX0_gather 102 = .ok (.iadd, 1) := eX0_gather_56.2.2.2.2.1
theorem dX0_gather_103 : decode cX0_gather 103 = .ok (.iload 5, 2) := eX0_gather_56.2.2.2.2.2.1
theorem dX0_gather_105 : decode cX0_gather 105 = .ok (.iastore, 1) := eX0_gather_56.2.2.2.2.2.2.1
theorem dX0_gather_106 : decode cX0_gather 106 = .ok (.iinc 3 1, 3) := eX0_gather_56.2.2.2.2.2.2.2
theorem eX0_gather_64 : (decode cX0_gather 109 = .ok (.aload_n 0, 1)) ∧ (decode cX0_gather 110 = .ok (.getfield 21, 3)) ∧ (decode cX0_gather 113 = .ok (.iload 5, 2)) ∧ (decode cX0_gather 115 = .ok (.iconst 1, 1)) ∧ (decode cX0_gather 116 = .ok (.bastore, 1)) ∧ (decode cX0_gather 117 = .ok (.iinc 4 1, 3)) ∧ (decode cX0_gather 120 = .ok (.goto (-74), 3)) ∧ (decode cX0_gather 123 = .ok (.aload_n 0, 1)) := by decide +kernel
theorem dX0_gather_109 : decode cX0_gather 109 = .ok (.aload_n 0, 1) := eX0_gather_64.1
theorem dX0_gather_110 : decode cX0_gather 110 = .ok (.getfield 21, 3) := eX0_gather_64.2.1
theorem dX0_gather_113 : decode cX0_gather 113 = .ok (.iload 5, 2) := eX0_gather_64.2.2.1
theorem dX0_gather_115 : decode cX0_gather 115 = .ok (.iconst 1, 1) := eX0_gather_64.2.2.2.1
theorem dX0_gather_116 : decode cX0_gather 116 = .ok (.bastore, 1) := eX0_gather_64.2.2.2.2.1
theorem dX0_gather_117 : decode cX0_gather 117 = .ok (.iinc 4 1, 3) := eX0_gather_64.2.2.2.2.2.1
theorem dX0_gather_120 : decode cX0_gather 120 = .ok (.goto (-74), 3) := eX0_gather_64.2.2.2.2.2.2.1
theorem dX0_gather_123 : decode cX0_gather 123 = .ok (.aload_n 0, 1) := eX0_gather_64.2.2.2.2.2.2.2
theorem eX0_gather_72 : (decode cX0_gather 124 = .ok (.getfield 15, 3)) ∧ (decode cX0_gather 127 = .ok (.iload_n 2, 1)) ∧ (decode cX0_gather 128 = .ok (.iload_n 3, 1)) ∧ (decode cX0_gather 129 = .ok (.iastore, 1)) ∧ (decode cX0_gather 130 = .ok (.iload_n 3, 1)) ∧ (decode cX0_gather 131 = .ok (.ifCond .le 20, 3)) ∧ (decode cX0_gather 134 = .ok (.aload_n 0, 1)) ∧ (decode cX0_gather 135 = .ok (.getfield 18, 3)) := by decide +kernel
theorem dX0_gather_124 : decode cX0_gather 124 = .ok (.getfield 15, 3) := eX0_gather_72.1
theorem dX0_gather_127 : decode cX0_gather 127 = .ok (.iload_n 2, 1) := eX0_gather_72.2.1
theorem dX0_gather_128 : decode cX0_gather 128 = .ok (.iload_n 3, 1) := eX0_gather_72.2.2.1
theorem dX0_gather_129 : decode cX0_gather 129 = .ok (.iastore, 1) := eX0_gather_72.2.2.2.1
theorem dX0_gather_130 : decode cX0_gather 130 = .ok (.iload_n 3, 1) := eX0_gather_72.2.2.2.2.1
theorem dX0_gather_131 : decode cX0_gather 131 = .ok (.ifCond .le 20, 3) := eX0_gather_72.2.2.2.2.2.1
theorem dX0_gather_134 : decode cX0_gather 134 = .ok (.aload_n 0, 1) := eX0_gather_72.2.2.2.2.2.2.1
theorem dX0_gather_135 : decode cX0_gather 135 = .ok (.getfield 18, 3) := eX0_gather_72.2.2.2.2.2.2.2
theorem eX0_gather_80 : (decode cX0_gather 138 = .ok (.aload_n 0, 1)) ∧ (decode cX0_gather 139 = .ok (.getfield 9, 3)) ∧ (decode cX0_gather 142 = .ok (.iload_n 2, 1)) ∧ (decode cX0_gather 143 = .ok (.iconst 5, 1)) ∧ (decode cX0_gather 144 = .ok (.imul, 1)) ∧ (decode cX0_gather 145 = .ok (.iaload, 1)) ∧ (decode cX0_gather 146 = .ok (.dup2, 1)) ∧ (decode cX0_gather 147 = .ok (.iaload, 1)) := by decide +kernel
theorem dX0_gather_138 : decode cX0_gather 138 = .ok (.aload_n 0, 1) := eX0_gather_80.1
theorem dX0_gather_139 : decode cX0_gather 139 = .ok (.getfield 9, 3) := eX0_gather_80.2.1
theorem dX0_gather_142 : decode cX0_gather 142 = .ok (.iload_n 2, 1) := eX0_gather_80.2.2.1
theorem dX0_gather_143 : decode cX0_gather 143 = .ok (.iconst 5, 1) := eX0_gather_80.2.2.2.1
theorem dX0_gather_144 : decode cX0_gather 144 = .ok (.imul, 1) := eX0_gather_80.2.2.2.2.1
theorem dX0_gather_145 : decode cX0_gather 145 = .ok (.iaload, 1) := eX0_gather_80.2.2.2.2.2.1
theorem dX0_gather_146 : decode cX0_gather 146 = .ok (.dup2, 1) := eX0_gather_80.2.2.2.2.2.2.1
theorem dX0_gather_147 : decode cX0_gather 147 = .ok (.iaload, 1) := eX0_gather_80.2.2.2.2.2.2.2
theorem eX0_gather_88 : (decode cX0_gather 148 = .ok (.iconst 1, 1)) ∧ (decode cX0_gather 149 = .ok (.iadd, 1)) ∧ (decode cX0_gather 150 = .ok (.iastore, 1)) ∧ (decode cX0_gather 151 = .ok (.iinc 2 1, 3)) ∧ (decode cX0_gather 154 = .ok (.goto (-124), 3)) ∧ (decode cX0_gather 157 = .ok (.return_, 1)) := by decide +kernel
theorem dX0_gather_148 : decode cX0_gather 148 = .ok (.iconst 1, 1) := eX0_gather_88.1
theorem dX0_gather_149 : decode cX0_gather 149 = .ok (.iadd, 1) := eX0_gather_88.2.1
theorem dX0_gather_150 : decode cX0_gather 150 = .ok (.iastore, 1) := eX0_gather_88.2.2.1
theorem dX0_gather_151 : decode cX0_gather 151 = .ok (.iinc 2 1, 3) := eX0_gather_88.2.2.2.1
theorem dX0_gather_154 : decode cX0_gather 154 = .ok (.goto (-124), 3) := eX0_gather_88.2.2.2.2.1
theorem dX0_gather_157 : decode cX0_gather 157 = .ok (.return_, 1) := eX0_gather_88.2.2.2.2.2
theorem eX0_decideByPoints_0 : (decode cX0_decideByPoints 0 = .ok (.aload_n 0, 1)) ∧ (decode cX0_decideByPoints 1 = .ok (.iconst 0, 1)) ∧ (decode cX0_decideByPoints 2 = .ok (.invokevirtual 75, 3)) ∧ (decode cX0_decideByPoints 5 = .ok (.iconst 0, 1)) ∧ (decode cX0_decideByPoints 6 = .ok (.istore_n 1, 1)) ∧ (decode cX0_decideByPoints 7 = .ok (.iload_n 1, 1)) ∧ (decode cX0_decideByPoints 8 = .ok (.aload_n 0, 1)) ∧ (decode cX0_decideByPoints 9 = .ok (.getfield 36, 3)) := by decide +kernel
theorem dX0_decideByPoints_0 : decode cX0_decideByPoints 0 = .ok (.aload_n 0, 1) := eX0_decideByPoints_0.1
theorem dX0_decideByPoints_1 : decode cX0_decideByPoints 1 = .ok (.iconst 0, 1) := eX0_decideByPoints_0.2.1
theorem dX0_decideByPoints_2 : decode cX0_decideByPoints 2 = .ok (.invokevirtual 75, 3) := eX0_decideByPoints_0.2.2.1
theorem dX0_decideByPoints_5 : decode cX0_decideByPoints 5 = .ok (.iconst 0, 1) := eX0_decideByPoints_0.2.2.2.1
theorem dX0_decideByPoints_6 : decode cX0_decideByPoints 6 = .ok (.istore_n 1, 1) := eX0_decideByPoints_0.2.2.2.2.1
theorem dX0_decideByPoints_7 : decode cX0_decideByPoints 7 = .ok (.iload_n 1, 1) := eX0_decideByPoints_0.2.2.2.2.2.1
theorem dX0_decideByPoints_8 : decode cX0_decideByPoints 8 = .ok (.aload_n 0, 1) := eX0_decideByPoints_0.2.2.2.2.2.2.1
theorem dX0_decideByPoints_9 : decode cX0_decideByPoints 9 = .ok (.getfield 36, 3) := eX0_decideByPoints_0.2.2.2.2.2.2.2
theorem eX0_decideByPoints_8 : (decode cX0_decideByPoints 12 = .ok (.getfield 60, 3)) ∧ (decode cX0_decideByPoints 15 = .ok (.if_icmp .ge 53, 3)) ∧ (decode cX0_decideByPoints 18 = .ok (.iconst 0, 1)) ∧ (decode cX0_decideByPoints 19 = .ok (.istore_n 2, 1)) ∧ (decode cX0_decideByPoints 20 = .ok (.iload_n 2, 1)) ∧ (decode cX0_decideByPoints 21 = .ok (.aload_n 0, 1)) ∧ (decode cX0_decideByPoints 22 = .ok (.getfield 15, 3)) ∧ (decode cX0_decideByPoints 25 = .ok (.iload_n 1, 1)) := by decide +kernel
theorem dX0_decideByPoints_12 : decode cX0_decideByPoints 12 = .ok (.getfield 60, 3) := eX0_decideByPoints_8.1
theorem dX0_decideByPoints_15 : decode cX0_decideByPoints 15 = .ok (.if_icmp .ge 53, 3) := eX0_decideByPoints_8.2.1
theorem dX0_decideByPoints_18 : decode cX0_decideByPoints 18 = .ok (.iconst 0, 1) := eX0_decideByPoints_8.2.2.1
theorem dX0_decideByPoints_19 : decode cX0_decideByPoints 19 = .ok (.istore_n 2, 1) := eX0_decideByPoints_8.2.2.2.1
theorem dX0_decideByPoints_20 : decode cX0_decideByPoints 20 = .ok (.iload_n 2, 1) := eX0_decideByPoints_8.2.2.2.2.1
theorem dX0_decideByPoints_21 : decode cX0_decideByPoints 21 = .ok (.aload_n 0, 1) := eX0_decideByPoints_8.2.2.2.2.2.1
theorem dX0_decideByPoints_22 : decode cX0_decideByPoints 22 = .ok (.getfield 15, 3) := eX0_decideByPoints_8.2.2.2.2.2.2.1
theorem dX0_decideByPoints_25 : decode cX0_decideByPoints 25 = .ok (.iload_n 1, 1) := eX0_decideByPoints_8.2.2.2.2.2.2.2
theorem eX0_decideByPoints_16 : (decode cX0_decideByPoints 26 = .ok (.iaload, 1)) ∧ (decode cX0_decideByPoints 27 = .ok (.if_icmp .ge 35, 3)) ∧ (decode cX0_decideByPoints 30 = .ok (.aload_n 0, 1)) ∧ (decode cX0_decideByPoints 31 = .ok (.getfield 25, 3)) ∧ (decode cX0_decideByPoints 34 = .ok (.aload_n 0, 1)) ∧ (decode cX0_decideByPoints 35 = .ok (.getfield 9, 3)) ∧ (decode cX0_decideByPoints 38 = .ok (.iload_n 1, 1)) ∧ (decode cX0_decideByPoints 39 = .ok (.iconst 5, 1)) := by decide +kernel
theorem dX0_decideByPoints_26 : decode cX0_decideByPoints 26 = .ok (.iaload, 1) := eX0_decideByPoints_16.1
theorem dX0_decideByPoints_27 : decode cX0_decideByPoints 27 = .ok (.if_icmp .ge 35, 3) := eX0_decideByPoints_16.2.1
theorem dX0_decideByPoints_30 : decode cX0_decideByPoints 30 = .ok (.aload_n 0, 1) := eX0_decideByPoints_16.2.2.1
theorem dX0_decideByPoints_31 : decode cX0_decideByPoints 31 = .ok (.getfield 25, 3) := eX0_decideByPoints_16.2.2.2.1
theorem dX0_decideByPoints_34 : decode cX0_decideByPoints 34 = .ok (.aload_n 0, 1) := eX0_decideByPoints_16.2.2.2.2.1
theorem dX0_decideByPoints_35 : decode cX0_decideByPoints 35 = .ok (.getfield 9, 3) := eX0_decideByPoints_16.2.2.2.2.2.1
theorem dX0_decideByPoints_38 : decode cX0_decideByPoints 38 = .ok (.iload_n 1, 1) := eX0_decideByPoints_16.2.2.2.2.2.2.1
theorem dX0_decideByPoints_39 : decode cX0_decideByPoints 39 = .ok (.iconst 5, 1) := eX0_decideByPoints_16.2.2.2.2.2.2.2
theorem eX0_decideByPoints_24 : (decode cX0_decideByPoints 40 = .ok (.imul, 1)) ∧ (decode cX0_decideByPoints 41 = .ok (.iload_n 2, 1)) ∧ (decode cX0_decideByPoints 42 = .ok (.iadd, 1)) ∧ (decode cX0_decideByPoints 43 = .ok (.iaload, 1)) ∧ (decode cX0_decideByPoints 44 = .ok (.dup2, 1)) ∧ (decode cX0_decideByPoints 45 = .ok (.iaload, 1)) ∧ (decode cX0_decideByPoints 46 = .ok (.aload_n 0, 1)) ∧ (decode cX0_decideByPoints 47 = .ok (.getfield 40, 3)) := by decide +kernel
theorem dX0_decideByPoints_40 : decode cX0_decideByPoints 40 = .ok (.imul, 1) := eX0_decideByPoints_24.1
theorem dX0_decideByPoints_41 : decode cX0_decideByPoints 41 = .ok (.iload_n 2, 1) := eX0_decideByPoints_24.2.1
theorem dX0_decideByPoints_42 : decode cX0_decideByPoints 42 = .ok (.iadd, 1) := eX0_decideByPoints_24.2.2.1
theorem dX0_decideByPoints_43 : decode cX0_decideByPoints 43 = .ok (.iaload, 1) := eX0_decideByPoints_24.2.2.2.1
theorem dX0_decideByPoints_44 : decode cX0_decideByPoints 44 = .ok (.dup2, 1) := eX0_decideByPoints_24.2.2.2.2.1
theorem dX0_decideByPoints_45 : decode cX0_decideByPoints 45 = .ok (.iaload, 1) := eX0_decideByPoints_24.2.2.2.2.2.1
theorem dX0_decideByPoints_46 : decode cX0_decideByPoints 46 = .ok (.aload_n 0, 1) := eX0_decideByPoints_24.2.2.2.2.2.2.1
theorem dX0_decideByPoints_47 : decode cX0_decideByPoints 47 = .ok (.getfield 40, 3) := eX0_decideByPoints_24.2.2.2.2.2.2.2
theorem eX0_decideByPoints_32 : (decode cX0_decideByPoints 50 = .ok (.iload_n 2, 1)) ∧ (decode cX0_decideByPoints 51 = .ok (.invokevirtual 78, 3)) ∧ (decode cX0_decideByPoints 54 = .ok (.iadd, 1)) ∧ (decode cX0_decideByPoints 55 = .ok (.iastore, 1)) ∧ (decode cX0_decideByPoints 56 = .ok (.iinc 2 1, 3)) ∧ (decode cX0_decideByPoints 59 = .ok (.goto (-39), 3)) ∧ (decode cX0_decideByPoints 62 = .ok (.iinc 1 1, 3)) ∧ (decode cX0_decideByPoints 65 = .ok (.goto (-58), 3)) := by decide +kernel
theorem dX0_decideByPoints_50 : decode cX0_decideByPoints 50 = .ok (.iload_n 2, 1) := eX0_decideByPoints_32.1
theorem dX0_decideByPoints_51 : decode cX0_decideByPoints 51 = .ok (.invokevirtual 78, 3) := eX0_decideByPoints_32.2.1
theorem dX0_decideByPoints_54 : decode cX0_decideByPoints 54 = .ok (.iadd, 1) := eX0_decideByPoints_32.2.2.1
theorem dX0_decideByPoints_55 : decode cX0_decideByPoints 55 = .ok (.iastore, 1) := eX0_decideByPoints_32.2.2.2.1
theorem dX0_decideByPoints_56 : decode cX0_decideByPoints 56 = .ok (.iinc 2 1, 3) := eX0_decideByPoints_32.2.2.2.2.1
theorem dX0_decideByPoints_59 : decode cX0_decideByPoints 59 = .ok (.goto (-39), 3) := eX0_decideByPoints_32.2.2.2.2.2.1
theorem dX0_decideByPoints_62 : decode cX0_decideByPoints 62 = .ok (.iinc 1 1, 3) := eX0_decideByPoints_32.2.2.2.2.2.2.1
theorem dX0_decideByPoints_65 : decode cX0_decideByPoints 65 = .ok (.goto (-58), 3) := eX0_decideByPoints_32.2.2.2.2.2.2.2
theorem eX0_decideByPoints_40 : (decode cX0_decideByPoints 68 = .ok (.aload_n 0, 1)) ∧ (decode cX0_decideByPoints 69 = .ok (.iconst 0, 1)) ∧ (decode cX0_decideByPoints 70 = .ok (.invokevirtual 82, 3)) ∧ (decode cX0_decideByPoints 73 = .ok (.istore_n 1, 1)) ∧ (decode cX0_decideByPoints 74 = .ok (.aload_n 0, 1)) ∧ (decode cX0_decideByPoints 75 = .ok (.iload_n 1, 1)) ∧ (decode cX0_decideByPoints 76 = .ok (.iconst (-1), 1)) ∧ (decode cX0_decideByPoints 77 = .ok (.if_icmp .ne 7, 3)) := by decide +kernel
theorem dX0_decideByPoints_68 : decode cX0_decideByPoints 68 = .ok (.aload_n 0, 1) := eX0_decideByPoints_40.1
theorem dX0_decideByPoints_69 : decode cX0_decideByPoints 69 = .ok (.iconst 0, 1) := eX0_decideByPoints_40.2.1
theorem dX0_decideByPoints_70 : decode cX0_decideByPoints 70 = .ok (.invokevirtual 82, 3) := eX0_decideByPoints_40.2.2.1
theorem dX0_decideByPoints_73 : decode cX0_decideByPoints 73 = .ok (.istore_n 1, 1) := eX0_decideByPoints_40.2.2.2.1
theorem dX0_decideByPoints_74 : decode cX0_decideByPoints 74 = .ok (.aload_n 0, 1) := eX0_decideByPoints_40.2.2.2.2.1
theorem dX0_decideByPoints_75 : decode cX0_decideByPoints 75 = .ok (.iload_n 1, 1) := eX0_decideByPoints_40.2.2.2.2.2.1
theorem dX0_decideByPoints_76 : decode cX0_decideByPoints 76 = .ok (.iconst (-1), 1) := eX0_decideByPoints_40.2.2.2.2.2.2.1
theorem dX0_decideByPoints_77 : decode cX0_decideByPoints 77 = .ok (.if_icmp .ne 7, 3) := eX0_decideByPoints_40.2.2.2.2.2.2.2
theorem eX0_decideByPoints_48 : (decode cX0_decideByPoints 80 = .ok (.iconst 0, 1)) ∧ (decode cX0_decideByPoints 81 = .ok (.goto 4, 3)) ∧ (decode cX0_decideByPoints 84 = .ok (.iconst 1, 1)) ∧ (decode cX0_decideByPoints 85 = .ok (.putfield 28, 3)) ∧ (decode cX0_decideByPoints 88 = .ok (.iload_n 1, 1)) ∧ (decode cX0_decideByPoints 89 = .ok (.ireturn, 1)) := by decide +kernel
theorem dX0_decideByPoints_80 : decode cX0_decideByPoints 80 = .ok (.iconst 0, 1) := eX0_decideByPoints_48.1
theorem dX0_decideByPoints_81 : decode cX0_decideByPoints 81 = .ok (.goto 4, 3) := eX0_decideByPoints_48.2.1
theorem dX0_decideByPoints_84 : decode cX0_decideByPoints 84 = .ok (.iconst 1, 1) := eX0_decideByPoints_48.2.2.1
theorem dX0_decideByPoints_85 : decode cX0_decideByPoints 85 = .ok (.putfield 28, 3) := eX0_decideByPoints_48.2.2.2.1
theorem dX0_decideByPoints_88 : decode cX0_decideByPoints 88 = .ok (.iload_n 1, 1) := eX0_decideByPoints_48.2.2.2.2.1
theorem dX0_decideByPoints_89 : decode cX0_decideByPoints 89 = .ok (.ireturn, 1) := eX0_decideByPoints_48.2.2.2.2.2
theorem eX0_decideByRounds_0 : (decode cX0_decideByRounds 0 = .ok (.iconst 0, 1)) ∧ (decode cX0_decideByRounds 1 = .ok (.istore_n 1, 1)) ∧ (decode cX0_decideByRounds 2 = .ok (.iload_n 1, 1)) ∧ (decode cX0_decideByRounds 3 = .ok (.bipush 20, 2)) ∧ (decode cX0_decideByRounds 5 = .ok (.if_icmp .ge 64, 3)) ∧ (decode cX0_decideByRounds 8 = .ok (.aload_n 0, 1)) ∧ (decode cX0_decideByRounds 9 = .ok (.iload_n 1, 1)) ∧ (decode cX0_decideByRounds 10 = .ok (.invokevirtual 75, 3)) := by decide +kernel
theorem dX0_decideByRounds_0 : decode cX0_decideByRounds 0 = .ok (.iconst 0, 1) := eX0_decideByRounds_0.1
theorem dX0_decideByRounds_1 : decode cX0_decideByRounds 1 = .ok (.istore_n 1, 1) := eX0_decideByRounds_0.2.1
theorem dX0_decideByRounds_2 : decode cX0_decideByRounds 2 = .ok (.iload_n 1, 1) := eX0_decideByRounds_0.2.2.1
theorem dX0_decideByRounds_3 : decode cX0_decideByRounds 3 = .ok (.bipush 20, 2) := eX0_decideByRounds_0.2.2.2.1
theorem dX0_decideByRounds_5 : decode cX0_decideByRounds 5 = .ok (.if_icmp .ge 64, 3) := eX0_decideByRounds_0.2.2.2.2.1
theorem dX0_decideByRounds_8 : decode cX0_decideByRounds 8 = .ok (.aload_n 0, 1) := eX0_decideByRounds_0.2.2.2.2.2.1
theorem dX0_decideByRounds_9 : decode cX0_decideByRounds 9 = .ok (.iload_n 1, 1) := eX0_decideByRounds_0.2.2.2.2.2.2.1
theorem dX0_decideByRounds_10 : decode cX0_decideByRounds 10 = .ok (.invokevirtual 75, 3) := eX0_decideByRounds_0.2.2.2.2.2.2.2
theorem eX0_decideByRounds_8 : (decode cX0_decideByRounds 13 = .ok (.aload_n 0, 1)) ∧ (decode cX0_decideByRounds 14 = .ok (.iload_n 1, 1)) ∧ (decode cX0_decideByRounds 15 = .ok (.invokevirtual 85, 3)) ∧ (decode cX0_decideByRounds 18 = .ok (.istore_n 2, 1)) ∧ (decode cX0_decideByRounds 19 = .ok (.aload_n 0, 1)) ∧ (decode cX0_decideByRounds 20 = .ok (.iload_n 1, 1)) ∧ (decode cX0_decideByRounds 21 = .ok (.invokevirtual 82, 3)) ∧ (decode cX0_decideByRounds 24 = .ok (.istore_n 3, 1)) := by decide +kernel
theorem dX0_decideByRounds_13 : decode cX0_decideByRounds 13 = .ok (.aload_n 0, 1) := eX0_decideByRounds_8.1
theorem dX0_decideByRounds_14 : decode cX0_decideByRounds 14 = .ok (.iload_n 1, 1) := eX0_decideByRounds_8.2.1
theorem dX0_decideByRounds_15 : decode cX0_decideByRounds 15 = .ok (.invokevirtual 85, 3) := eX0_decideByRounds_8.2.2.1
theorem dX0_decideByRounds_18 : decode cX0_decideByRounds 18 = .ok (.istore_n 2, 1) := eX0_decideByRounds_8.2.2.2.1
theorem dX0_decideByRounds_19 : decode cX0_decideByRounds 19 = .ok (.aload_n 0, 1) := eX0_decideByRounds_8.2.2.2.2.1
theorem dX0_decideByRounds_20 : decode cX0_decideByRounds 20 = .ok (.iload_n 1, 1) := eX0_decideByRounds_8.2.2.2.2.2.1
theorem dX0_decideByRounds_21 : decode cX0_decideByRounds 21 = .ok (.invokevirtual 82, 3) := eX0_decideByRounds_8.2.2.2.2.2.2.1
theorem dX0_decideByRounds_24 : decode cX0_decideByRounds 24 = .ok (.istore_n 3, 1) := eX0_decideByRounds_8.2.2.2.2.2.2.2
theorem eX0_decideByRounds_16 : (decode cX0_decideByRounds 25 = .ok (.iload_n 3, 1)) ∧ (decode cX0_decideByRounds 26 = .ok (.iconst (-1), 1)) ∧ (decode cX0_decideByRounds 27 = .ok (.if_icmp .ne 5, 3)) ∧ (decode cX0_decideByRounds 30 = .ok (.iconst (-1), 1)) ∧ (decode cX0_decideByRounds 31 = .ok (.ireturn, 1)) ∧ (decode cX0_decideByRounds 32 = .ok (.aload_n 0, 1)) ∧ (decode cX0_decideByRounds 33 = .ok (.iload_n 1, 1)) ∧ (decode cX0_decideByRounds 34 = .ok (.iconst 1, 1)) := by decide +kernel
theorem dX0_decideByRounds_25 : decode cX0_decideByRounds 25 = .ok (.iload_n 3, 1) := eX0_decideByRounds_16.1
theorem dX0_decideByRounds_26 : decode cX0_decideByRounds 26 = .ok (.iconst (-1), 1) := eX0_decideByRounds_16.2.1
theorem dX0_decideByRounds_27 : decode cX0_decideByRounds 27 = .ok (.if_icmp .ne 5, 3) := eX0_decideByRounds_16.2.2.1
theorem dX0_decideByRounds_30 : decode cX0_decideByRounds 30 = .ok (.iconst (-1), 1) := eX0_decideByRounds_16.2.2.2.1
theorem dX0_decideByRounds_31 : decode cX0_decideByRounds 31 = .ok (.ireturn, 1) := eX0_decideByRounds_16.2.2.2.2.1
theorem dX0_decideByRounds_32 : decode cX0_decideByRounds 32 = .ok (.aload_n 0, 1) := eX0_decideByRounds_16.2.2.2.2.2.1
theorem dX0_decideByRounds_33 : decode cX0_decideByRounds 33 = .ok (.iload_n 1, 1) := eX0_decideByRounds_16.2.2.2.2.2.2.1
theorem dX0_decideByRounds_34 : decode cX0_decideByRounds 34 = .ok (.iconst 1, 1) := eX0_decideByRounds_16.2.2.2.2.2.2.2
theorem eX0_decideByRounds_24 : (decode cX0_decideByRounds 35 = .ok (.iadd, 1)) ∧ (decode cX0_decideByRounds 36 = .ok (.putfield 28, 3)) ∧ (decode cX0_decideByRounds 39 = .ok (.iconst 2, 1)) ∧ (decode cX0_decideByRounds 40 = .ok (.aload_n 0, 1)) ∧ (decode cX0_decideByRounds 41 = .ok (.getfield 25, 3)) ∧ (decode cX0_decideByRounds 44 = .ok (.iload_n 1, 1)) ∧ (decode cX0_decideByRounds 45 = .ok (.bipush 20, 2)) ∧ (decode cX0_decideByRounds 47 = .ok (.imul, 1)) := by decide +kernel
theorem dX0_decideByRounds_35 : decode cX0_decideByRounds 35 = .ok (.iadd, 1) := eX0_decideByRounds_24.1
theorem dX0_decideByRounds_36 : decode cX0_decideByRounds 36 = .ok (.putfield 28, 3) := eX0_decideByRounds_24.2.1
theorem dX0_decideByRounds_39 : decode cX0_decideByRounds 39 = .ok (.iconst 2, 1) := eX0_decideByRounds_24.2.2.1
theorem dX0_decideByRounds_40 : decode cX0_decideByRounds 40 = .ok (.aload_n 0, 1) := eX0_decideByRounds_24.2.2.2.1
theorem dX0_decideByRounds_41 : decode cX0_decideByRounds 41 = .ok (.getfield 25, 3) := eX0_decideByRounds_24.2.2.2.2.1
theorem dX0_decideByRounds_44 : decode cX0_decideByRounds 44 = .ok (.iload_n 1, 1) := eX0_decideByRounds_24.2.2.2.2.2.1
theorem dX0_decideByRounds_45 : decode cX0_decideByRounds 45 = .ok (.bipush 20, 2) := eX0_decideByRounds_24.2.2.2.2.2.2.1
theorem dX0_decideByRounds_47 : decode cX0_decideByRounds 47 = .ok (.imul, 1) := eX0_decideByRounds_24.2.2.2.2.2.2.2
theorem eX0_decideByRounds_32 : (decode cX0_decideByRounds 48 = .ok (.iload_n 3, 1)) ∧ (decode cX0_decideByRounds 49 = .ok (.iadd, 1)) ∧ (decode cX0_decideByRounds 50 = .ok (.iaload, 1)) ∧ (decode cX0_decideByRounds 51 = .ok (.imul, 1)) ∧ (decode cX0_decideByRounds 52 = .ok (.iload_n 2, 1)) ∧ (decode cX0_decideByRounds 53 = .ok (.if_icmp .le 5, 3)) ∧ (decode cX0_decideByRounds 56 = .ok (.iload_n 3, 1)) ∧ (decode cX0_decideByRounds 57 = .ok (.ireturn, 1)) := by decide +kernel
theorem dX0_decideByRounds_48 : decode cX0_decideByRounds 48 = .ok (.iload_n 3, 1) := eX0_decideByRounds_32.1
theorem dX0_decideByRounds_49 : decode cX0_decideByRounds 49 = .ok (.iadd, 1) := eX0_decideByRounds_32.2.1
theorem dX0_decideByRounds_50 : decode cX0_decideByRounds 50 = .ok (.iaload, 1) := eX0_decideByRounds_32.2.2.1
theorem dX0_decideByRounds_51 : decode cX0_decideByRounds 51 = .ok (.imul, 1) := eX0_decideByRounds_32.2.2.2.1
theorem dX0_decideByRounds_52 : decode cX0_decideByRounds 52 = .ok (.iload_n 2, 1) := eX0_decideByRounds_32.2.2.2.2.1
theorem dX0_decideByRounds_53 : decode cX0_decideByRounds 53 = .ok (.if_icmp .le 5, 3) := eX0_decideByRounds_32.2.2.2.2.2.1
theorem dX0_decideByRounds_56 : decode cX0_decideByRounds 56 = .ok (.iload_n 3, 1) := eX0_decideByRounds_32.2.2.2.2.2.2.1
theorem dX0_decideByRounds_57 : decode cX0_decideByRounds 57 = .ok (.ireturn, 1) := eX0_decideByRounds_32.2.2.2.2.2.2.2
theorem eX0_decideByRounds_40 : (decode cX0_decideByRounds 58 = .ok (.aload_n 0, 1)) ∧ (decode cX0_decideByRounds 59 = .ok (.iload_n 1, 1)) ∧ (decode cX0_decideByRounds 60 = .ok (.invokevirtual 88, 3)) ∧ (decode cX0_decideByRounds 63 = .ok (.iinc 1 1, 3)) ∧ (decode cX0_decideByRounds 66 = .ok (.goto (-64), 3)) ∧ (decode cX0_decideByRounds 69 = .ok (.iconst (-1), 1)) ∧ (decode cX0_decideByRounds 70 = .ok (.ireturn, 1)) := by decide +kernel
theorem dX0_decideByRounds_58 : decode cX0_decideByRounds 58 = .ok (.aload_n 0, 1) := eX0_decideByRounds_40.1
theorem dX0_decideByRounds_59 : decode cX0_decideByRounds 59 = .ok (.iload_n 1, 1) := eX0_decideByRounds_40.2.1
theorem dX0_decideByRounds_60 : decode cX0_decideByRounds 60 = .ok (.invokevirtual 88, 3) := eX0_decideByRounds_40.2.2.1
theorem dX0_decideByRounds_63 : decode cX0_decideByRounds 63 = .ok (.iinc 1 1, 3) := eX0_decideByRounds_40.2.2.2.1
theorem dX0_decideByRounds_66 : decode cX0_decideByRounds 66 = .ok (.goto (-64), 3) := eX0_decideByRounds_40.2.2.2.2.1
theorem dX0_decideByRounds_69 : decode cX0_decideByRounds 69 = .ok (.iconst (-1), 1) := eX0_decideByRounds_40.2.2.2.2.2.1
theorem dX0_decideByRounds_70 : decode cX0_decideByRounds 70 = .ok (.ireturn, 1) := eX0_decideByRounds_40.2.2.2.2.2.2
theorem eX0_openRound_0 : (decode cX0_openRound 0 = .ok (.iconst 0, 1)) ∧ (decode cX0_openRound 1 = .ok (.istore_n 2, 1)) ∧ (decode cX0_openRound 2 = .ok (.iload_n 2, 1)) ∧ (decode cX0_openRound 3 = .ok (.bipush 20, 2)) ∧ (decode cX0_openRound 5 = .ok (.if_icmp .ge 34, 3)) ∧ (decode cX0_openRound 8 = .ok (.aload_n 0, 1)) ∧ (decode cX0_openRound 9 = .ok (.getfield 25, 3)) ∧ (decode cX0_openRound 12 = .ok (.iload_n 1, 1)) := by decide +kernel
theorem dX0_openRound_0 : decode cX0_openRound 0 = .ok (.iconst 0, 1) := eX0_openRound_0.1
theorem dX0_openRound_1 : decode cX0_openRound 1 = .ok (.istore_n 2, 1) := eX0_openRound_0.2.1
theorem dX0_openRound_2 : decode cX0_openRound 2 = .ok (.iload_n 2, 1) := eX0_openRound_0.2.2.1
theorem dX0_openRound_3 : decode cX0_openRound 3 = .ok (.bipush 20, 2) := eX0_openRound_0.2.2.2.1
theorem dX0_openRound_5 : decode cX0_openRound 5 = .ok (.if_icmp .ge 34, 3) := eX0_openRound_0.2.2.2.2.1
theorem dX0_openRound_8 : decode cX0_openRound 8 = .ok (.aload_n 0, 1) := eX0_openRound_0.2.2.2.2.2.1
theorem dX0_openRound_9 : decode cX0_openRound 9 = .ok (.getfield 25, 3) := eX0_openRound_0.2.2.2.2.2.2.1
theorem dX0_openRound_12 : decode cX0_openRound 12 = .ok (.iload_n 1, 1) := eX0_openRound_0.2.2.2.2.2.2.2
theorem eX0_openRound_8 : (decode cX0_openRound 13 = .ok (.bipush 20, 2)) ∧ (decode cX0_openRound 15 = .ok (.imul, 1)) ∧ (decode cX0_openRound 16 = .ok (.iload_n 2, 1)) ∧ (decode cX0_openRound 17 = .ok (.iadd, 1)) ∧ (decode cX0_openRound 18 = .ok (.aload_n 0, 1)) ∧ (decode cX0_openRound 19 = .ok (.getfield 21, 3)) ∧ (decode cX0_openRound 22 = .ok (.iload_n 2, 1)) ∧ (decode cX0_openRound 23 = .ok (.baload, 1)) := by decide +kernel
theorem dX0_openRound_13 : decode cX0_openRound 13 = .ok (.bipush 20, 2) := eX0_openRound_8.1
theorem dX0_openRound_15 : decode cX0_openRound 15 = .ok (.imul, 1) := eX0_openRound_8.2.1
theorem dX0_openRound_16 : decode cX0_openRound 16 = .ok (.iload_n 2, 1) := eX0_openRound_8.2.2.1
theorem dX0_openRound_17 : decode cX0_openRound 17 = .ok (.iadd, 1) := eX0_openRound_8.2.2.2.1
theorem dX0_openRound_18 : decode cX0_openRound 18 = .ok (.aload_n 0, 1) := eX0_openRound_8.2.2.2.2.1
theorem dX0_openRound_19 : decode cX0_openRound 19 = .ok (.getfield 21, 3) := eX0_openRound_8.2.2.2.2.2.1
theorem dX0_openRound_22 : decode cX0_openRound 22 = .ok (.iload_n 2, 1) := eX0_openRound_8.2.2.2.2.2.2.1
theorem dX0_openRound_23 : decode cX0_openRound 23 = .ok (.baload, 1) := eX0_openRound_8.2.2.2.2.2.2.2
theorem eX0_openRound_16 : (decode cX0_openRound 24 = .ok (.ifCond .eq 7, 3)) ∧ (decode cX0_openRound 27 = .ok (.iconst 0, 1)) ∧ (decode cX0_openRound 28 = .ok (.goto 4, 3)) ∧ (decode cX0_openRound 31 = .ok (.iconst (-1), 1)) ∧ (decode cX0_openRound 32 = .ok (.iastore, 1)) ∧ (decode cX0_openRound 33 = .ok (.iinc 2 1, 3)) ∧ (decode cX0_openRound 36 = .ok (.goto (-34), 3)) ∧ (decode cX0_openRound 39 = .ok (.return_, 1)) := by decide +kernel
theorem dX0_openRound_24 : decode cX0_openRound 24 = .ok (.ifCond .eq 7, 3) := eX0_openRound_16.1
theorem dX0_openRound_27 : decode cX0_openRound 27 = .ok (.iconst 0, 1) := eX0_openRound_16.2.1
theorem dX0_openRound_28 : decode cX0_openRound 28 = .ok (.goto 4, 3) := eX0_openRound_16.2.2.1
theorem dX0_openRound_31 : decode cX0_openRound 31 = .ok (.iconst (-1), 1) := eX0_openRound_16.2.2.2.1
theorem dX0_openRound_32 : decode cX0_openRound 32 = .ok (.iastore, 1) := eX0_openRound_16.2.2.2.2.1
theorem dX0_openRound_33 : decode cX0_openRound 33 = .ok (.iinc 2 1, 3) := eX0_openRound_16.2.2.2.2.2.1
theorem dX0_openRound_36 : decode cX0_openRound 36 = .ok (.goto (-34), 3) := eX0_openRound_16.2.2.2.2.2.2.1
theorem dX0_openRound_39 : decode cX0_openRound 39 = .ok (.return_, 1) := eX0_openRound_16.2.2.2.2.2.2.2
theorem eX0_giveFirsts_0 : (decode cX0_giveFirsts 0 = .ok (.iconst 0, 1)) ∧ (decode cX0_giveFirsts 1 = .ok (.istore_n 2, 1)) ∧ (decode cX0_giveFirsts 2 = .ok (.iconst 0, 1)) ∧ (decode cX0_giveFirsts 3 = .ok (.istore_n 3, 1)) ∧ (decode cX0_giveFirsts 4 = .ok (.iload_n 3, 1)) ∧ (decode cX0_giveFirsts 5 = .ok (.aload_n 0, 1)) ∧ (decode cX0_giveFirsts 6 = .ok (.getfield 36, 3)) ∧ (decode cX0_giveFirsts 9 = .ok (.getfield 60, 3)) := by decide +kernel
theorem dX0_giveFirsts_0 : decode cX0_giveFirsts 0 = .ok (.iconst 0, 1) := eX0_giveFirsts_0.1
theorem dX0_giveFirsts_1 : decode cX0_giveFirsts 1 = .ok (.istore_n 2, 1) := eX0_giveFirsts_0.2.1
theorem dX0_giveFirsts_2 : decode cX0_giveFirsts 2 = .ok (.iconst 0, 1) := eX0_giveFirsts_0.2.2.1
theorem dX0_giveFirsts_3 : decode cX0_giveFirsts 3 = .ok (.istore_n 3, 1) := eX0_giveFirsts_0.2.2.2.1
theorem dX0_giveFirsts_4 : decode cX0_giveFirsts 4 = .ok (.iload_n 3, 1) := eX0_giveFirsts_0.2.2.2.2.1
theorem dX0_giveFirsts_5 : decode cX0_giveFirsts 5 = .ok (.aload_n 0, 1) := eX0_giveFirsts_0.2.2.2.2.2.1
theorem dX0_giveFirsts_6 : decode cX0_giveFirsts 6 = .ok (.getfield 36, 3) := eX0_giveFirsts_0.2.2.2.2.2.2.1
theorem dX0_giveFirsts_9 : decode cX0_giveFirsts 9 = .ok (.getfield 60, 3) := eX0_giveFirsts_0.2.2.2.2.2.2.2
theorem eX0_giveFirsts_8 : (decode cX0_giveFirsts 12 = .ok (.if_icmp .ge 74, 3)) ∧ (decode cX0_giveFirsts 15 = .ok (.iconst 0, 1)) ∧ (decode cX0_giveFirsts 16 = .ok (.istore 4, 2)) ∧ (decode cX0_giveFirsts 18 = .ok (.iload 4, 2)) ∧ (decode cX0_giveFirsts 20 = .ok (.aload_n 0, 1)) ∧ (decode cX0_giveFirsts 21 = .ok (.getfield 15, 3)) ∧ (decode cX0_giveFirsts 24 = .ok (.iload_n 3, 1)) ∧ (decode cX0_giveFirsts 25 = .ok (.iaload, 1)) := by decide +kernel
theorem dX0_giveFirsts_12 : decode cX0_giveFirsts 12 = .ok (.if_icmp .ge 74, 3) := eX0_giveFirsts_8.1
theorem dX0_giveFirsts_15 : decode cX0_giveFirsts 15 = .ok (.iconst 0, 1) := eX0_giveFirsts_8.2.1
theorem dX0_giveFirsts_16 : decode cX0_giveFirsts 16 = .ok (.istore 4, 2) := eX0_giveFirsts_8.2.2.1
theorem dX0_giveFirsts_18 : decode cX0_giveFirsts 18 = .ok (.iload 4, 2) := eX0_giveFirsts_8.2.2.2.1
theorem dX0_giveFirsts_20 : decode cX0_giveFirsts 20 = .ok (.aload_n 0, 1) := eX0_giveFirsts_8.2.2.2.2.1
theorem dX0_giveFirsts_21 : decode cX0_giveFirsts 21 = .ok (.getfield 15, 3) := eX0_giveFirsts_8.2.2.2.2.2.1
theorem dX0_giveFirsts_24 : decode cX0_giveFirsts 24 = .ok (.iload_n 3, 1) := eX0_giveFirsts_8.2.2.2.2.2.2.1
theorem dX0_giveFirsts_25 : decode cX0_giveFirsts 25 = .ok (.iaload, 1) := eX0_giveFirsts_8.2.2.2.2.2.2.2
theorem eX0_giveFirsts_16 : (decode cX0_giveFirsts 26 = .ok (.if_icmp .ge 54, 3)) ∧ (decode cX0_giveFirsts 29 = .ok (.aload_n 0, 1)) ∧ (decode cX0_giveFirsts 30 = .ok (.getfield 9, 3)) ∧ (decode cX0_giveFirsts 33 = .ok (.iload_n 3, 1)) ∧ (decode cX0_giveFirsts 34 = .ok (.iconst 5, 1)) ∧ (decode cX0_giveFirsts 35 = .ok (.imul, 1)) ∧ (decode cX0_giveFirsts 36 = .ok (.iload 4, 2)) ∧ (decode cX0_giveFirsts 38 = .ok (.iadd, 1)) := by decide +kernel
theorem dX0_giveFirsts_26 : decode cX0_giveFirsts 26 = .ok (.if_icmp .ge 54, 3) := eX0_giveFirsts_16.1
theorem dX0_giveFirsts_29 : decode cX0_giveFirsts 29 = .ok (.aload_n 0, 1) := eX0_giveFirsts_16.2.1
theorem dX0_giveFirsts_30 : decode cX0_giveFirsts 30 = .ok (.getfield 9, 3) := eX0_giveFirsts_16.2.2.1
theorem dX0_giveFirsts_33 : decode cX0_giveFirsts 33 = .ok (.iload_n 3, 1) := eX0_giveFirsts_16.2.2.2.1
theorem dX0_giveFirsts_34 : decode cX0_giveFirsts 34 = .ok (.iconst 5, 1) := eX0_giveFirsts_16.2.2.2.2.1
theorem dX0_giveFirsts_35 : decode cX0_giveFirsts 35 = .ok (.imul, 1) := eX0_giveFirsts_16.2.2.2.2.2.1
theorem dX0_giveFirsts_36 : decode cX0_giveFirsts 36 = .ok (.iload 4, 2) := eX0_giveFirsts_16.2.2.2.2.2.2.1
theorem dX0_giveFirsts_38 : decode cX0_giveFirsts 38 = .ok (.iadd, 1) := eX0_giveFirsts_16.2.2.2.2.2.2.2
theorem eX0_giveFirsts_24 : (decode cX0_giveFirsts 39 = .ok (.iaload, 1)) ∧ (decode cX0_giveFirsts 40 = .ok (.istore 5, 2)) ∧ (decode cX0_giveFirsts 42 = .ok (.aload_n 0, 1)) ∧ (decode cX0_giveFirsts 43 = .ok (.getfield 21, 3)) ∧ (decode cX0_giveFirsts 46 = .ok (.iload 5, 2)) ∧ (decode cX0_giveFirsts 48 = .ok (.baload, 1)) ∧ (decode cX0_giveFirsts 49 = .ok (.ifCond .eq 25, 3)) ∧ (decode cX0_giveFirsts 52 = .ok (.aload_n 0, 1)) := by decide +kernel
theorem dX0_giveFirsts_39 : decode cX0_giveFirsts 39 = .ok (.iaload, 1) := eX0_giveFirsts_24.1
theorem dX0_giveFirsts_40 : decode cX0_giveFirsts 40 = .ok (.istore 5, 2) := eX0_giveFirsts_24.2.1
theorem dX0_giveFirsts_42 : decode cX0_giveFirsts 42 = .ok (.aload_n 0, 1) := eX0_giveFirsts_24.2.2.1
theorem dX0_giveFirsts_43 : decode cX0_giveFirsts 43 = .ok (.getfield 21, 3) := eX0_giveFirsts_24.2.2.2.1
theorem dX0_giveFirsts_46 : decode cX0_giveFirsts 46 = .ok (.iload 5, 2) := eX0_giveFirsts_24.2.2.2.2.1
theorem dX0_giveFirsts_48 : decode cX0_giveFirsts 48 = .ok (.baload, 1) := eX0_giveFirsts_24.2.2.2.2.2.1
theorem dX0_giveFirsts_49 : decode cX0_giveFirsts 49 = .ok (.ifCond .eq 25, 3) := eX0_giveFirsts_24.2.2.2.2.2.2.1
theorem dX0_giveFirsts_52 : decode cX0_giveFirsts 52 = .ok (.aload_n 0, 1) := eX0_giveFirsts_24.2.2.2.2.2.2.2
theorem eX0_giveFirsts_32 : (decode cX0_giveFirsts 53 = .ok (.getfield 25, 3)) ∧ (decode cX0_giveFirsts 56 = .ok (.iload_n 1, 1)) ∧ (decode cX0_giveFirsts 57 = .ok (.bipush 20, 2)) ∧ (decode cX0_giveFirsts 59 = .ok (.imul, 1)) ∧ (decode cX0_giveFirsts 60 = .ok (.iload 5, 2)) ∧ (decode cX0_giveFirsts 62 = .ok (.iadd, 1)) ∧ (decode cX0_giveFirsts 63 = .ok (.dup2, 1)) ∧ (decode cX0_giveFirsts 64 = .ok (.iaload, 1)) := by decide +kernel
theorem dX0_giveFirsts_53 : decode cX0_giveFirsts 53 = .ok (.getfield 25, 3) := eX0_giveFirsts_32.1
theorem dX0_giveFirsts_56 : decode cX0_giveFirsts 56 = .ok (.iload_n 1, 1) := eX0_giveFirsts_32.2.1
theorem dX0_giveFirsts_57 : decode cX0_giveFirsts 57 = .ok (.bipush 20, 2) := eX0_giveFirsts_32.2.2.1
theorem dX0_giveFirsts_59 : decode cX0_giveFirsts 59 = .ok (.imul, 1) := eX0_giveFirsts_32.2.2.2.1
theorem dX0_giveFirsts_60 : decode cX0_giveFirsts 60 = .ok (.iload 5, 2) := eX0_giveFirsts_32.2.2.2.2.1
theorem dX0_giveFirsts_62 : decode cX0_giveFirsts 62 = .ok (.iadd, 1) := eX0_giveFirsts_32.2.2.2.2.2.1
theorem dX0_giveFirsts_63 : decode cX0_giveFirsts 63 = .ok (.dup2, 1) := eX0_giveFirsts_32.2.2.2.2.2.2.1
theorem dX0_giveFirsts_64 : decode cX0_giveFirsts 64 = .ok (.iaload, 1) := eX0_giveFirsts_32.2.2.2.2.2.2.2
theorem eX0_giveFirsts_40 : (decode cX0_giveFirsts 65 = .ok (.iconst 1, 1)) ∧ (decode cX0_giveFirsts 66 = .ok (.iadd, 1)) ∧ (decode cX0_giveFirsts 67 = .ok (.iastore, 1)) ∧ (decode cX0_giveFirsts 68 = .ok (.iinc 2 1, 3)) ∧ (decode cX0_giveFirsts 71 = .ok (.goto 9, 3)) ∧ (decode cX0_giveFirsts 74 = .ok (.iinc 4 1, 3)) ∧ (decode cX0_giveFirsts 77 = .ok (.goto (-59), 3)) ∧ (decode cX0_giveFirsts 80 = .ok (.iinc 3 1, 3)) := by decide +kernel
theorem dX0_giveFirsts_65 : decode cX0_giveFirsts 65 = .ok (.iconst 1, 1) := eX0_giveFirsts_40.1
theorem dX0_giveFirsts_66 : decode cX0_giveFirsts 66 = .ok (.iadd, 1) := eX0_giveFirsts_40.2.1
theorem dX0_giveFirsts_67 : decode cX0_giveFirsts 67 = .ok (.iastore, 1) := eX0_giveFirsts_40.2.2.1
theorem dX0_giveFirsts_68 : decode cX0_giveFirsts 68 = .ok (.iinc 2 1, 3) := eX0_giveFirsts_40.2.2.2.1
theorem dX0_giveFirsts_71 : decode cX0_giveFirsts 71 = .ok (.goto 9, 3) := eX0_giveFirsts_40.2.2.2.2.1
theorem dX0_giveFirsts_74 : decode cX0_giveFirsts 74 = .ok (.iinc 4 1, 3) := eX0_giveFirsts_40.2.2.2.2.2.1
theorem dX0_giveFirsts_77 : decode cX0_giveFirsts 77 = .ok (.goto (-59), 3) := eX0_giveFirsts_40.2.2.2.2.2.2.1
theorem dX0_giveFirsts_80 : decode cX0_giveFirsts 80 = .ok (.iinc 3 1, 3) := eX0_giveFirsts_40.2.2.2.2.2.2.2
theorem eX0_giveFirsts_48 : (decode cX0_giveFirsts 83 = .ok (.goto (-79), 3)) ∧ (decode cX0_giveFirsts 86 = .ok (.iload_n 2, 1)) ∧ (decode cX0_giveFirsts 87 = .ok (.ireturn, 1)) := by decide +kernel
theorem dX0_giveFirsts_83 : decode cX0_giveFirsts 83 = .ok (.goto (-79), 3) := eX0_giveFirsts_48.1
theorem dX0_giveFirsts_86 : decode cX0_giveFirsts 86 = .ok (.iload_n 2, 1) := eX0_giveFirsts_48.2.1
theorem dX0_giveFirsts_87 : decode cX0_giveFirsts 87 = .ok (.ireturn, 1) := eX0_giveFirsts_48.2.2
theorem eX0_foremost_0 : (decode cX0_foremost 0 = .ok (.iconst (-1), 1)) ∧ (decode cX0_foremost 1 = .ok (.istore_n 2, 1)) ∧ (decode cX0_foremost 2 = .ok (.iconst 0, 1)) ∧ (decode cX0_foremost 3 = .ok (.istore_n 3, 1)) ∧ (decode cX0_foremost 4 = .ok (.iload_n 3, 1)) ∧ (decode cX0_foremost 5 = .ok (.bipush 20, 2)) ∧ (decode cX0_foremost 7 = .ok (.if_icmp .ge 35, 3)) ∧ (decode cX0_foremost 10 = .ok (.aload_n 0, 1)) := by decide +kernel
theorem dX0_foremost_0 : decode cX0_foremost 0 = .ok (.iconst (-1), 1) := eX0_foremost_0.1
theorem dX0_foremost_1 : decode cX0_foremost 1 = .ok (.istore_n 2, 1) := eX0_foremost_0.2.1
theorem dX0_foremost_2 : decode cX0_foremost 2 = .ok (.iconst 0, 1) := eX0_foremost_0.2.2.1
theorem dX0_foremost_3 : decode cX0_foremost 3 = .ok (.istore_n 3, 1) := eX0_foremost_0.2.2.2.1
theorem dX0_foremost_4 : decode cX0_foremost 4 = .ok (.iload_n 3, 1) := eX0_foremost_0.2.2.2.2.1
theorem dX0_foremost_5 : decode cX0_foremost 5 = .ok (.bipush 20, 2) := eX0_foremost_0.2.2.2.2.2.1
theorem dX0_foremost_7 : decode cX0_foremost 7 = .ok (.if_icmp .ge 35, 3) := eX0_foremost_0.2.2.2.2.2.2.1
theorem dX0_foremost_10 : decode cX0_foremost 10 = .ok (.aload_n 0, 1) := eX0_foremost_0.2.2.2.2.2.2.2
theorem eX0_foremost_8 : (decode cX0_foremost 11 = .ok (.getfield 21, 3)) ∧ (decode cX0_foremost 14 = .ok (.iload_n 3, 1)) ∧ (decode cX0_foremost 15 = .ok (.baload, 1)) ∧ (decode cX0_foremost 16 = .ok (.ifCond .eq 20, 3)) ∧ (decode cX0_foremost 19 = .ok (.iload_n 2, 1)) ∧ (decode cX0_foremost 20 = .ok (.iconst (-1), 1)) ∧ (decode cX0_foremost 21 = .ok (.if_icmp .eq 13, 3)) ∧ (decode cX0_foremost 24 = .ok (.aload_n 0, 1)) := by decide +kernel
theorem dX0_foremost_11 : decode cX0_foremost 11 = .ok (.getfield 21, 3) := eX0_foremost_8.1
theorem dX0_foremost_14 : decode cX0_foremost 14 = .ok (.iload_n 3, 1) := eX0_foremost_8.2.1
theorem dX0_foremost_15 : decode cX0_foremost 15 = .ok (.baload, 1) := eX0_foremost_8.2.2.1
theorem dX0_foremost_16 : decode cX0_foremost 16 = .ok (.ifCond .eq 20, 3) := eX0_foremost_8.2.2.2.1
theorem dX0_foremost_19 : decode cX0_foremost 19 = .ok (.iload_n 2, 1) := eX0_foremost_8.2.2.2.2.1
theorem dX0_foremost_20 : decode cX0_foremost 20 = .ok (.iconst (-1), 1) := eX0_foremost_8.2.2.2.2.2.1
theorem dX0_foremost_21 : decode cX0_foremost 21 = .ok (.if_icmp .eq 13, 3) := eX0_foremost_8.2.2.2.2.2.2.1
theorem dX0_foremost_24 : decode cX0_foremost 24 = .ok (.aload_n 0, 1) := eX0_foremost_8.2.2.2.2.2.2.2
theorem eX0_foremost_16 : (decode cX0_foremost 25 = .ok (.iload_n 1, 1)) ∧ (decode cX0_foremost 26 = .ok (.iload_n 3, 1)) ∧ (decode cX0_foremost 27 = .ok (.iload_n 2, 1)) ∧ (decode cX0_foremost 28 = .ok (.invokevirtual 91, 3)) ∧ (decode cX0_foremost 31 = .ok (.ifCond .eq 5, 3)) ∧ (decode cX0_foremost 34 = .ok (.iload_n 3, 1)) ∧ (decode cX0_foremost 35 = .ok (.istore_n 2, 1)) ∧ (decode cX0_foremost 36 = .ok (.iinc 3 1, 3)) := by decide +kernel
theorem dX0_foremost_25 : decode cX0_foremost 25 = .ok (.iload_n 1, 1) := eX0_foremost_16.1
theorem dX0_foremost_26 : decode cX0_foremost 26 = .ok (.iload_n 3, 1) := eX0_foremost_16.2.1
theorem dX0_foremost_27 : decode cX0_foremost 27 = .ok (.iload_n 2, 1) := eX0_foremost_16.2.2.1
theorem dX0_foremost_28 : decode cX0_foremost 28 = .ok (.invokevirtual 91, 3) := eX0_foremost_16.2.2.2.1
theorem dX0_foremost_31 : decode cX0_foremost 31 = .ok (.ifCond .eq 5, 3) := eX0_foremost_16.2.2.2.2.1
theorem dX0_foremost_34 : decode cX0_foremost 34 = .ok (.iload_n 3, 1) := eX0_foremost_16.2.2.2.2.2.1
theorem dX0_foremost_35 : decode cX0_foremost 35 = .ok (.istore_n 2, 1) := eX0_foremost_16.2.2.2.2.2.2.1
theorem dX0_foremost_36 : decode cX0_foremost 36 = .ok (.iinc 3 1, 3) := eX0_foremost_16.2.2.2.2.2.2.2
theorem eX0_foremost_24 : (decode cX0_foremost 39 = .ok (.goto (-35), 3)) ∧ (decode cX0_foremost 42 = .ok (.iload_n 2, 1)) ∧ (decode cX0_foremost 43 = .ok (.ireturn, 1)) := by decide +kernel
theorem dX0_foremost_39 : decode cX0_foremost 39 = .ok (.goto (-35), 3) := eX0_foremost_24.1
theorem dX0_foremost_42 : decode cX0_foremost 42 = .ok (.iload_n 2, 1) := eX0_foremost_24.2.1
theorem dX0_foremost_43 : decode cX0_foremost 43 = .ok (.ireturn, 1) := eX0_foremost_24.2.2
theorem eX0_putOutHindmost_0 : (decode cX0_putOutHindmost 0 = .ok (.iconst (-1), 1)) ∧ (decode cX0_putOutHindmost 1 = .ok (.istore_n 2, 1)) ∧ (decode cX0_putOutHindmost 2 = .ok (.iconst 0, 1)) ∧ (decode cX0_putOutHindmost 3 = .ok (.istore_n 3, 1)) ∧ (decode cX0_putOutHindmost 4 = .ok (.iload_n 3, 1)) ∧ (decode cX0_putOutHindmost 5 = .ok (.bipush 20, 2)) ∧ (decode cX0_putOutHindmost 7 = .ok (.if_icmp .ge 35, 3)) ∧ (decode cX0_putOutHindmost 10 = .ok (.aload_n 0, 1)) := by decide +kernel
theorem dX0_putOutHindmost_0 : decode cX0_putOutHindmost 0 = .ok (.iconst (-1), 1) := eX0_putOutHindmost_0.1
theorem dX0_putOutHindmost_1 : decode cX0_putOutHindmost 1 = .ok (.istore_n 2, 1) := eX0_putOutHindmost_0.2.1
theorem dX0_putOutHindmost_2 : decode cX0_putOutHindmost 2 = .ok (.iconst 0, 1) := eX0_putOutHindmost_0.2.2.1
theorem dX0_putOutHindmost_3 : decode cX0_putOutHindmost 3 = .ok (.istore_n 3, 1) := eX0_putOutHindmost_0.2.2.2.1
theorem dX0_putOutHindmost_4 : decode cX0_putOutHindmost 4 = .ok (.iload_n 3, 1) := eX0_putOutHindmost_0.2.2.2.2.1
theorem dX0_putOutHindmost_5 : decode cX0_putOutHindmost 5 = .ok (.bipush 20, 2) := eX0_putOutHindmost_0.2.2.2.2.2.1
theorem dX0_putOutHindmost_7 : decode cX0_putOutHindmost 7 = .ok (.if_icmp .ge 35, 3) := eX0_putOutHindmost_0.2.2.2.2.2.2.1
theorem dX0_putOutHindmost_10 : decode cX0_putOutHindmost 10 = .ok (.aload_n 0, 1) := eX0_putOutHindmost_0.2.2.2.2.2.2.2
theorem eX0_putOutHindmost_8 : (decode cX0_putOutHindmost 11 = .ok (.getfield 21, 3)) ∧ (decode cX0_putOutHindmost 14 = .ok (.iload_n 3, 1)) ∧ (decode cX0_putOutHindmost 15 = .ok (.baload, 1)) ∧ (decode cX0_putOutHindmost 16 = .ok (.ifCond .eq 20, 3)) ∧ (decode cX0_putOutHindmost 19 = .ok (.iload_n 2, 1)) ∧ (decode cX0_putOutHindmost 20 = .ok (.iconst (-1), 1)) ∧ (decode cX0_putOutHindmost 21 = .ok (.if_icmp .eq 13, 3)) ∧ (decode cX0_putOutHindmost 24 = .ok (.aload_n 0, 1)) := by decide +kernel
theorem dX0_putOutHindmost_11 : decode cX0_putOutHindmost 11 = .ok (.getfield 21, 3) := eX0_putOutHindmost_8.1
theorem dX0_putOutHindmost_14 : decode cX0_putOutHindmost 14 = .ok (.iload_n 3, 1) := eX0_putOutHindmost_8.2.1
theorem dX0_putOutHindmost_15 : decode cX0_putOutHindmost 15 = .ok (.baload, 1) := eX0_putOutHindmost_8.2.2.1
theorem dX0_putOutHindmost_16 : decode cX0_putOutHindmost 16 = .ok (.ifCond .eq 20, 3) := eX0_putOutHindmost_8.2.2.2.1
theorem dX0_putOutHindmost_19 : decode cX0_putOutHindmost 19 = .ok (.iload_n 2, 1) := eX0_putOutHindmost_8.2.2.2.2.1
theorem dX0_putOutHindmost_20 : decode cX0_putOutHindmost 20 = .ok (.iconst (-1), 1) := eX0_putOutHindmost_8.2.2.2.2.2.1
theorem dX0_putOutHindmost_21 : decode cX0_putOutHindmost 21 = .ok (.if_icmp .eq 13, 3) := eX0_putOutHindmost_8.2.2.2.2.2.2.1
theorem dX0_putOutHindmost_24 : decode cX0_putOutHindmost 24 = .ok (.aload_n 0, 1) := eX0_putOutHindmost_8.2.2.2.2.2.2.2
theorem eX0_putOutHindmost_16 : (decode cX0_putOutHindmost 25 = .ok (.iload_n 1, 1)) ∧ (decode cX0_putOutHindmost 26 = .ok (.iload_n 2, 1)) ∧ (decode cX0_putOutHindmost 27 = .ok (.iload_n 3, 1)) ∧ (decode cX0_putOutHindmost 28 = .ok (.invokevirtual 91, 3)) ∧ (decode cX0_putOutHindmost 31 = .ok (.ifCond .eq 5, 3)) ∧ (decode cX0_putOutHindmost 34 = .ok (.iload_n 3, 1)) ∧ (decode cX0_putOutHindmost 35 = .ok (.istore_n 2, 1)) ∧ (decode cX0_putOutHindmost 36 = .ok (.iinc 3 1, 3)) := by decide +kernel
theorem dX0_putOutHindmost_25 : decode cX0_putOutHindmost 25 = .ok (.iload_n 1, 1) := eX0_putOutHindmost_16.1
theorem dX0_putOutHindmost_26 : decode cX0_putOutHindmost 26 = .ok (.iload_n 2, 1) := eX0_putOutHindmost_16.2.1
theorem dX0_putOutHindmost_27 : decode cX0_putOutHindmost 27 = .ok (.iload_n 3, 1) := eX0_putOutHindmost_16.2.2.1
theorem dX0_putOutHindmost_28 : decode cX0_putOutHindmost 28 = .ok (.invokevirtual 91, 3) := eX0_putOutHindmost_16.2.2.2.1
theorem dX0_putOutHindmost_31 : decode cX0_putOutHindmost 31 = .ok (.ifCond .eq 5, 3) := eX0_putOutHindmost_16.2.2.2.2.1
theorem dX0_putOutHindmost_34 : decode cX0_putOutHindmost 34 = .ok (.iload_n 3, 1) := eX0_putOutHindmost_16.2.2.2.2.2.1
theorem dX0_putOutHindmost_35 : decode cX0_putOutHindmost 35 = .ok (.istore_n 2, 1) := eX0_putOutHindmost_16.2.2.2.2.2.2.1
theorem dX0_putOutHindmost_36 : decode cX0_putOutHindmost 36 = .ok (.iinc 3 1, 3) := eX0_putOutHindmost_16.2.2.2.2.2.2.2
theorem eX0_putOutHindmost_24 : (decode cX0_putOutHindmost 39 = .ok (.goto (-35), 3)) ∧ (decode cX0_putOutHindmost 42 = .ok (.iload_n 2, 1)) ∧ (decode cX0_putOutHindmost 43 = .ok (.iconst (-1), 1)) ∧ (decode cX0_putOutHindmost 44 = .ok (.if_icmp .eq 10, 3)) ∧ (decode cX0_putOutHindmost 47 = .ok (.aload_n 0, 1)) ∧ (decode cX0_putOutHindmost 48 = .ok (.getfield 21, 3)) ∧ (decode cX0_putOutHindmost 51 = .ok (.iload_n 2, 1)) ∧ (decode cX0_putOutHindmost 52 = .ok (.iconst 0, 1)) := by decide +kernel
theorem dX0_putOutHindmost_39 : decode cX0_putOutHindmost 39 = .ok (.goto (-35), 3) := eX0_putOutHindmost_24.1
theorem dX0_putOutHindmost_42 : decode cX0_putOutHindmost 42 = .ok (.iload_n 2, 1) := eX0_putOutHindmost_24.2.1
theorem dX0_putOutHindmost_43 : decode cX0_putOutHindmost 43 = .ok (.iconst (-1), 1) := eX0_putOutHindmost_24.2.2.1
theorem dX0_putOutHindmost_44 : decode cX0_putOutHindmost 44 = .ok (.if_icmp .eq 10, 3) := eX0_putOutHindmost_24.2.2.2.1
theorem dX0_putOutHindmost_47 : decode cX0_putOutHindmost 47 = .ok (.aload_n 0, 1) := eX0_putOutHindmost_24.2.2.2.2.1
theorem dX0_putOutHindmost_48 : decode cX0_putOutHindmost 48 = .ok (.getfield 21, 3) := eX0_putOutHindmost_24.2.2.2.2.2.1
theorem dX0_putOutHindmost_51 : decode cX0_putOutHindmost 51 = .ok (.iload_n 2, 1) := eX0_putOutHindmost_24.2.2.2.2.2.2.1
theorem dX0_putOutHindmost_52 : decode cX0_putOutHindmost 52 = .ok (.iconst 0, 1) := eX0_putOutHindmost_24.2.2.2.2.2.2.2
theorem eX0_putOutHindmost_32 : (decode cX0_putOutHindmost 53 = .ok (.bastore, 1)) ∧ (decode cX0_putOutHindmost 54 = .ok (.return_, 1)) := by decide +kernel
theorem dX0_putOutHindmost_53 : decode cX0_putOutHindmost 53 = .ok (.bastore, 1) := eX0_putOutHindmost_32.1
theorem dX0_putOutHindmost_54 : decode cX0_putOutHindmost 54 = .ok (.return_, 1) := eX0_putOutHindmost_32.2
theorem eX0_isAhead_0 : (decode cX0_isAhead 0 = .ok (.aload_n 0, 1)) ∧ (decode cX0_isAhead 1 = .ok (.getfield 25, 3)) ∧ (decode cX0_isAhead 4 = .ok (.iload_n 1, 1)) ∧ (decode cX0_isAhead 5 = .ok (.bipush 20, 2)) ∧ (decode cX0_isAhead 7 = .ok (.imul, 1)) ∧ (decode cX0_isAhead 8 = .ok (.iload_n 2, 1)) ∧ (decode cX0_isAhead 9 = .ok (.iadd, 1)) ∧ (decode cX0_isAhead 10 = .ok (.iaload, 1)) := by decide +kernel
theorem dX0_isAhead_0 : decode cX0_isAhead 0 = .ok (.aload_n 0, 1) := eX0_isAhead_0.1
theorem dX0_isAhead_1 : decode cX0_isAhead 1 = .ok (.getfield 25, 3) := eX0_isAhead_0.2.1
theorem dX0_isAhead_4 : decode cX0_isAhead 4 = .ok (.iload_n 1, 1) := eX0_isAhead_0.2.2.1
theorem dX0_isAhead_5 : decode cX0_isAhead 5 = .ok (.bipush 20, 2) := eX0_isAhead_0.2.2.2.1
theorem dX0_isAhead_7 : decode cX0_isAhead 7 = .ok (.imul, 1) := eX0_isAhead_0.2.2.2.2.1
theorem dX0_isAhead_8 : decode cX0_isAhead 8 = .ok (.iload_n 2, 1) := eX0_isAhead_0.2.2.2.2.2.1
theorem dX0_isAhead_9 : decode cX0_isAhead 9 = .ok (.iadd, 1) := eX0_isAhead_0.2.2.2.2.2.2.1
theorem dX0_isAhead_10 : decode cX0_isAhead 10 = .ok (.iaload, 1) := eX0_isAhead_0.2.2.2.2.2.2.2
theorem eX0_isAhead_8 : (decode cX0_isAhead 11 = .ok (.istore 4, 2)) ∧ (decode cX0_isAhead 13 = .ok (.aload_n 0, 1)) ∧ (decode cX0_isAhead 14 = .ok (.getfield 25, 3)) ∧ (decode cX0_isAhead 17 = .ok (.iload_n 1, 1)) ∧ (decode cX0_isAhead 18 = .ok (.bipush 20, 2)) ∧ (decode cX0_isAhead 20 = .ok (.imul, 1)) ∧ (decode cX0_isAhead 21 = .ok (.iload_n 3, 1)) ∧ (decode cX0_isAhead 22 = .ok (.iadd, 1)) := by decide +kernel
theorem dX0_isAhead_11 : decode cX0_isAhead 11 = .ok (.istore 4, 2) := eX0_isAhead_8.1
theorem dX0_isAhead_13 : decode cX0_isAhead 13 = .ok (.aload_n 0, 1) := eX0_isAhead_8.2.1
theorem dX0_isAhead_14 : decode cX0_isAhead 14 = .ok (.getfield 25, 3) := eX0_isAhead_8.2.2.1
theorem dX0_isAhead_17 : decode cX0_isAhead 17 = .ok (.iload_n 1, 1) := eX0_isAhead_8.2.2.2.1
theorem dX0_isAhead_18 : decode cX0_isAhead 18 = .ok (.bipush 20, 2) := eX0_isAhead_8.2.2.2.2.1
theorem dX0_isAhead_20 : decode cX0_isAhead 20 = .ok (.imul, 1) := eX0_isAhead_8.2.2.2.2.2.1
theorem dX0_isAhead_21 : decode cX0_isAhead 21 = .ok (.iload_n 3, 1) := eX0_isAhead_8.2.2.2.2.2.2.1
theorem dX0_isAhead_22 : decode cX0_isAhead 22 = .ok (.iadd, 1) := eX0_isAhead_8.2.2.2.2.2.2.2
theorem eX0_isAhead_16 : (decode cX0_isAhead 23 = .ok (.iaload, 1)) ∧ (decode cX0_isAhead 24 = .ok (.istore 5, 2)) ∧ (decode cX0_isAhead 26 = .ok (.iload 4, 2)) ∧ (decode cX0_isAhead 28 = .ok (.iload 5, 2)) ∧ (decode cX0_isAhead 30 = .ok (.if_icmp .eq 16, 3)) ∧ (decode cX0_isAhead 33 = .ok (.iload 4, 2)) ∧ (decode cX0_isAhead 35 = .ok (.iload 5, 2)) ∧ (decode cX0_isAhead 37 = .ok (.if_icmp .le 7, 3)) := by decide +kernel
theorem dX0_isAhead_23 : decode cX0_isAhead 23 = .ok (.iaload, 1) := eX0_isAhead_16.1
theorem dX0_isAhead_24 : decode cX0_isAhead 24 = .ok (.istore 5, 2) := eX0_isAhead_16.2.1
theorem dX0_isAhead_26 : decode cX0_isAhead 26 = .ok (.iload 4, 2) := eX0_isAhead_16.2.2.1
theorem dX0_isAhead_28 : decode cX0_isAhead 28 = .ok (.iload 5, 2) := eX0_isAhead_16.2.2.2.1
theorem dX0_isAhead_30 : decode cX0_isAhead 30 = .ok (.if_icmp .eq 16, 3) := eX0_isAhead_16.2.2.2.2.1
theorem dX0_isAhead_33 : decode cX0_isAhead 33 = .ok (.iload 4, 2) := eX0_isAhead_16.2.2.2.2.2.1
theorem dX0_isAhead_35 : decode cX0_isAhead 35 = .ok (.iload 5, 2) := eX0_isAhead_16.2.2.2.2.2.2.1
theorem dX0_isAhead_37 : decode cX0_isAhead 37 = .ok (.if_icmp .le 7, 3) := eX0_isAhead_16.2.2.2.2.2.2.2
theorem eX0_isAhead_24 : (decode cX0_isAhead 40 = .ok (.iconst 1, 1)) ∧ (decode cX0_isAhead 41 = .ok (.goto 4, 3)) ∧ (decode cX0_isAhead 44 = .ok (.iconst 0, 1)) ∧ (decode cX0_isAhead 45 = .ok (.ireturn, 1)) ∧ (decode cX0_isAhead 46 = .ok (.aload_n 0, 1)) ∧ (decode cX0_isAhead 47 = .ok (.getfield 40, 3)) ∧ (decode cX0_isAhead 50 = .ok (.getfield 95, 3)) ∧ (decode cX0_isAhead 53 = .ok (.iconst 1, 1)) := by decide +kernel
theorem dX0_isAhead_40 : decode cX0_isAhead 40 = .ok (.iconst 1, 1) := eX0_isAhead_24.1
theorem dX0_isAhead_41 : decode cX0_isAhead 41 = .ok (.goto 4, 3) := eX0_isAhead_24.2.1
theorem dX0_isAhead_44 : decode cX0_isAhead 44 = .ok (.iconst 0, 1) := eX0_isAhead_24.2.2.1
theorem dX0_isAhead_45 : decode cX0_isAhead 45 = .ok (.ireturn, 1) := eX0_isAhead_24.2.2.2.1
theorem dX0_isAhead_46 : decode cX0_isAhead 46 = .ok (.aload_n 0, 1) := eX0_isAhead_24.2.2.2.2.1
theorem dX0_isAhead_47 : decode cX0_isAhead 47 = .ok (.getfield 40, 3) := eX0_isAhead_24.2.2.2.2.2.1
theorem dX0_isAhead_50 : decode cX0_isAhead 50 = .ok (.getfield 95, 3) := eX0_isAhead_24.2.2.2.2.2.2.1
theorem dX0_isAhead_53 : decode cX0_isAhead 53 = .ok (.iconst 1, 1) := eX0_isAhead_24.2.2.2.2.2.2.2
theorem eX0_isAhead_32 : (decode cX0_isAhead 54 = .ok (.if_icmp .ne 51, 3)) ∧ (decode cX0_isAhead 57 = .ok (.aload_n 0, 1)) ∧ (decode cX0_isAhead 58 = .ok (.getfield 32, 3)) ∧ (decode cX0_isAhead 61 = .ok (.getfield 98, 3)) ∧ (decode cX0_isAhead 64 = .ok (.iload_n 2, 1)) ∧ (decode cX0_isAhead 65 = .ok (.iaload, 1)) ∧ (decode cX0_isAhead 66 = .ok (.aload_n 0, 1)) ∧ (decode cX0_isAhead 67 = .ok (.getfield 32, 3)) := by decide +kernel
theorem dX0_isAhead_54 : decode cX0_isAhead 54 = .ok (.if_icmp .ne 51, 3) := eX0_isAhead_32.1
theorem dX0_isAhead_57 : decode cX0_isAhead 57 = .ok (.aload_n 0, 1) := eX0_isAhead_32.2.1
theorem dX0_isAhead_58 : decode cX0_isAhead 58 = .ok (.getfield 32, 3) := eX0_isAhead_32.2.2.1
theorem dX0_isAhead_61 : decode cX0_isAhead 61 = .ok (.getfield 98, 3) := eX0_isAhead_32.2.2.2.1
theorem dX0_isAhead_64 : decode cX0_isAhead 64 = .ok (.iload_n 2, 1) := eX0_isAhead_32.2.2.2.2.1
theorem dX0_isAhead_65 : decode cX0_isAhead 65 = .ok (.iaload, 1) := eX0_isAhead_32.2.2.2.2.2.1
theorem dX0_isAhead_66 : decode cX0_isAhead 66 = .ok (.aload_n 0, 1) := eX0_isAhead_32.2.2.2.2.2.2.1
theorem dX0_isAhead_67 : decode cX0_isAhead 67 = .ok (.getfield 32, 3) := eX0_isAhead_32.2.2.2.2.2.2.2
theorem eX0_isAhead_40 : (decode cX0_isAhead 70 = .ok (.getfield 98, 3)) ∧ (decode cX0_isAhead 73 = .ok (.iload_n 3, 1)) ∧ (decode cX0_isAhead 74 = .ok (.iaload, 1)) ∧ (decode cX0_isAhead 75 = .ok (.if_icmp .eq 30, 3)) ∧ (decode cX0_isAhead 78 = .ok (.aload_n 0, 1)) ∧ (decode cX0_isAhead 79 = .ok (.getfield 32, 3)) ∧ (decode cX0_isAhead 82 = .ok (.getfield 98, 3)) ∧ (decode cX0_isAhead 85 = .ok (.iload_n 2, 1)) := by decide +kernel
theorem dX0_isAhead_70 : decode cX0_isAhead 70 = .ok (.getfield 98, 3) := eX0_isAhead_40.1
theorem dX0_isAhead_73 : decode cX0_isAhead 73 = .ok (.iload_n 3, 1) := eX0_isAhead_40.2.1
theorem dX0_isAhead_74 : decode cX0_isAhead 74 = .ok (.iaload, 1) := eX0_isAhead_40.2.2.1
theorem dX0_isAhead_75 : decode cX0_isAhead 75 = .ok (.if_icmp .eq 30, 3) := eX0_isAhead_40.2.2.2.1
theorem dX0_isAhead_78 : decode cX0_isAhead 78 = .ok (.aload_n 0, 1) := eX0_isAhead_40.2.2.2.2.1
theorem dX0_isAhead_79 : decode cX0_isAhead 79 = .ok (.getfield 32, 3) := eX0_isAhead_40.2.2.2.2.2.1
theorem dX0_isAhead_82 : decode cX0_isAhead 82 = .ok (.getfield 98, 3) := eX0_isAhead_40.2.2.2.2.2.2.1
theorem dX0_isAhead_85 : decode cX0_isAhead 85 = .ok (.iload_n 2, 1) := eX0_isAhead_40.2.2.2.2.2.2.2
theorem eX0_isAhead_48 : (decode cX0_isAhead 86 = .ok (.iaload, 1)) ∧ (decode cX0_isAhead 87 = .ok (.aload_n 0, 1)) ∧ (decode cX0_isAhead 88 = .ok (.getfield 32, 3)) ∧ (decode cX0_isAhead 91 = .ok (.getfield 98, 3)) ∧ (decode cX0_isAhead 94 = .ok (.iload_n 3, 1)) ∧ (decode cX0_isAhead 95 = .ok (.iaload, 1)) ∧ (decode cX0_isAhead 96 = .ok (.if_icmp .le 7, 3)) ∧ (decode cX0_isAhead 99 = .ok (.iconst 1, 1)) := by decide +kernel
theorem dX0_isAhead_86 : decode cX0_isAhead 86 = .ok (.iaload, 1) := eX0_isAhead_48.1
theorem dX0_isAhead_87 : decode cX0_isAhead 87 = .ok (.aload_n 0, 1) := eX0_isAhead_48.2.1
theorem dX0_isAhead_88 : decode cX0_isAhead 88 = .ok (.getfield 32, 3) := eX0_isAhead_48.2.2.1
theorem dX0_isAhead_91 : decode cX0_isAhead 91 = .ok (.getfield 98, 3) := eX0_isAhead_48.2.2.2.1
theorem dX0_isAhead_94 : decode cX0_isAhead 94 = .ok (.iload_n 3, 1) := eX0_isAhead_48.2.2.2.2.1
theorem dX0_isAhead_95 : decode cX0_isAhead 95 = .ok (.iaload, 1) := eX0_isAhead_48.2.2.2.2.2.1
theorem dX0_isAhead_96 : decode cX0_isAhead 96 = .ok (.if_icmp .le 7, 3) := eX0_isAhead_48.2.2.2.2.2.2.1
theorem dX0_isAhead_99 : decode cX0_isAhead 99 = .ok (.iconst 1, 1) := eX0_isAhead_48.2.2.2.2.2.2.2
theorem eX0_isAhead_56 : (decode cX0_isAhead 100 = .ok (.goto 4, 3)) ∧ (decode cX0_isAhead 103 = .ok (.iconst 0, 1)) ∧ (decode cX0_isAhead 104 = .ok (.ireturn, 1)) ∧ (decode cX0_isAhead 105 = .ok (.aload_n 0, 1)) ∧ (decode cX0_isAhead 106 = .ok (.getfield 40, 3)) ∧ (decode cX0_isAhead 109 = .ok (.getfield 95, 3)) ∧ (decode cX0_isAhead 112 = .ok (.iconst 2, 1)) ∧ (decode cX0_isAhead 113 = .ok (.if_icmp .ne 39, 3)) := by decide +kernel
theorem dX0_isAhead_100 : decode cX0_isAhead 100 = .ok (.goto 4, 3) := eX0_isAhead_56.1
theorem dX0_isAhead_103 : decode cX0_isAhead 103 = .ok (.iconst 0, 1) := eX0_isAhead_56.2.1
theorem dX0_isAhead_104 : decode cX0_isAhead 104 = .ok (.ireturn, 1) := eX0_isAhead_56.2.2.1
theorem dX0_isAhead_105 : decode cX0_isAhead 105 = .ok (.aload_n 0, 1) := eX0_isAhead_56.2.2.2.1
theorem dX0_isAhead_106 : decode cX0_isAhead 106 = .ok (.getfield 40, 3) := eX0_isAhead_56.2.2.2.2.1
theorem dX0_isAhead_109 : decode cX0_isAhead 109 = .ok (.getfield 95, 3) := eX0_isAhead_56.2.2.2.2.2.1
theorem dX0_isAhead_112 : decode cX0_isAhead 112 = .ok (.iconst 2, 1) := eX0_isAhead_56.2.2.2.2.2.2.1
theorem dX0_isAhead_113 : decode cX0_isAhead 113 = .ok (.if_icmp .ne 39, 3) := eX0_isAhead_56.2.2.2.2.2.2.2
theorem eX0_isAhead_64 : (decode cX0_isAhead 116 = .ok (.aload_n 0, 1)) ∧ (decode cX0_isAhead 117 = .ok (.getfield 18, 3)) ∧ (decode cX0_isAhead 120 = .ok (.iload_n 2, 1)) ∧ (decode cX0_isAhead 121 = .ok (.iaload, 1)) ∧ (decode cX0_isAhead 122 = .ok (.aload_n 0, 1)) ∧ (decode cX0_isAhead 123 = .ok (.getfield 18, 3)) ∧ (decode cX0_isAhead 126 = .ok (.iload_n 3, 1)) ∧ (decode cX0_isAhead 127 = .ok (.iaload, 1)) := by decide +kernel
theorem dX0_isAhead_116 : decode cX0_isAhead 116 = .ok (.aload_n 0, 1) := eX0_isAhead_64.1
theorem dX0_isAhead_117 : decode cX0_isAhead 117 = .ok (.getfield 18, 3) := eX0_isAhead_64.2.1
theorem dX0_isAhead_120 : decode cX0_isAhead 120 = .ok (.iload_n 2, 1) := eX0_isAhead_64.2.2.1
theorem dX0_isAhead_121 : decode cX0_isAhead 121 = .ok (.iaload, 1) := eX0_isAhead_64.2.2.2.1
theorem dX0_isAhead_122 : decode cX0_isAhead 122 = .ok (.aload_n 0, 1) := eX0_isAhead_64.2.2.2.2.1
theorem dX0_isAhead_123 : decode cX0_isAhead 123 = .ok (.getfield 18, 3) := eX0_isAhead_64.2.2.2.2.2.1
theorem dX0_isAhead_126 : decode cX0_isAhead 126 = .ok (.iload_n 3, 1) := eX0_isAhead_64.2.2.2.2.2.2.1
theorem dX0_isAhead_127 : decode cX0_isAhead 127 = .ok (.iaload, 1) := eX0_isAhead_64.2.2.2.2.2.2.2
theorem eX0_isAhead_72 : (decode cX0_isAhead 128 = .ok (.if_icmp .eq 24, 3)) ∧ (decode cX0_isAhead 131 = .ok (.aload_n 0, 1)) ∧ (decode cX0_isAhead 132 = .ok (.getfield 18, 3)) ∧ (decode cX0_isAhead 135 = .ok (.iload_n 2, 1)) ∧ (decode cX0_isAhead 136 = .ok (.iaload, 1)) ∧ (decode cX0_isAhead 137 = .ok (.aload_n 0, 1)) ∧ (decode cX0_isAhead 138 = .ok (.getfield 18, 3)) ∧ (decode cX0_isAhead 141 = .ok (.iload_n 3, 1)) := by decide +kernel
theorem dX0_isAhead_128 : decode cX0_isAhead 128 = .ok (.if_icmp .eq 24, 3) := eX0_isAhead_72.1
theorem dX0_isAhead_131 : decode cX0_isAhead 131 = .ok (.aload_n 0, 1) := eX0_isAhead_72.2.1
theorem dX0_isAhead_132 : decode cX0_isAhead 132 = .ok (.getfield 18, 3) := eX0_isAhead_72.2.2.1
theorem dX0_isAhead_135 : decode cX0_isAhead 135 = .ok (.iload_n 2, 1) := eX0_isAhead_72.2.2.2.1
theorem dX0_isAhead_136 : decode cX0_isAhead 136 = .ok (.iaload, 1) := eX0_isAhead_72.2.2.2.2.1
theorem dX0_isAhead_137 : decode cX0_isAhead 137 = .ok (.aload_n 0, 1) := eX0_isAhead_72.2.2.2.2.2.1
theorem dX0_isAhead_138 : decode cX0_isAhead 138 = .ok (.getfield 18, 3) := eX0_isAhead_72.2.2.2.2.2.2.1
theorem dX0_isAhead_141 : decode cX0_isAhead 141 = .ok (.iload_n 3, 1) := eX0_isAhead_72.2.2.2.2.2.2.2
theorem eX0_isAhead_80 : (decode cX0_isAhead 142 = .ok (.iaload, 1)) ∧ (decode cX0_isAhead 143 = .ok (.if_icmp .le 7, 3)) ∧ (decode cX0_isAhead 146 = .ok (.iconst 1, 1)) ∧ (decode cX0_isAhead 147 = .ok (.goto 4, 3)) ∧ (decode cX0_isAhead 150 = .ok (.iconst 0, 1)) ∧ (decode cX0_isAhead 151 = .ok (.ireturn, 1)) ∧ (decode cX0_isAhead 152 = .ok (.iload_n 2, 1)) ∧ (decode cX0_isAhead 153 = .ok (.iload_n 3, 1)) := by decide +kernel
theorem dX0_isAhead_142 : decode cX0_isAhead 142 = .ok (.iaload, 1) := eX0_isAhead_80.1
theorem dX0_isAhead_143 : decode cX0_isAhead 143 = .ok (.if_icmp .le 7, 3) := eX0_isAhead_80.2.1
theorem dX0_isAhead_146 : decode cX0_isAhead 146 = .ok (.iconst 1, 1) := eX0_isAhead_80.2.2.1
theorem dX0_isAhead_147 : decode cX0_isAhead 147 = .ok (.goto 4, 3) := eX0_isAhead_80.2.2.2.1
theorem dX0_isAhead_150 : decode cX0_isAhead 150 = .ok (.iconst 0, 1) := eX0_isAhead_80.2.2.2.2.1
theorem dX0_isAhead_151 : decode cX0_isAhead 151 = .ok (.ireturn, 1) := eX0_isAhead_80.2.2.2.2.2.1
theorem dX0_isAhead_152 : decode cX0_isAhead 152 = .ok (.iload_n 2, 1) := eX0_isAhead_80.2.2.2.2.2.2.1
theorem dX0_isAhead_153 : decode cX0_isAhead 153 = .ok (.iload_n 3, 1) := eX0_isAhead_80.2.2.2.2.2.2.2
theorem eX0_isAhead_88 : (decode cX0_isAhead 154 = .ok (.if_icmp .ge 7, 3)) ∧ (decode cX0_isAhead 157 = .ok (.iconst 1, 1)) ∧ (decode cX0_isAhead 158 = .ok (.goto 4, 3)) ∧ (decode cX0_isAhead 161 = .ok (.iconst 0, 1)) ∧ (decode cX0_isAhead 162 = .ok (.ireturn, 1)) := by decide +kernel
theorem dX0_isAhead_154 : decode cX0_isAhead 154 = .ok (.if_icmp .ge 7, 3) := eX0_isAhead_88.1
theorem dX0_isAhead_157 : decode cX0_isAhead 157 = .ok (.iconst 1, 1) := eX0_isAhead_88.2.1
theorem dX0_isAhead_158 : decode cX0_isAhead 158 = .ok (.goto 4, 3) := eX0_isAhead_88.2.2.1
theorem dX0_isAhead_161 : decode cX0_isAhead 161 = .ok (.iconst 0, 1) := eX0_isAhead_88.2.2.2.1
theorem dX0_isAhead_162 : decode cX0_isAhead 162 = .ok (.ireturn, 1) := eX0_isAhead_88.2.2.2.2
theorem eX1_init_0 : (decode cX1_init 0 = .ok (.aload_n 0, 1)) ∧ (decode cX1_init 1 = .ok (.invokespecial 3, 3)) ∧ (decode cX1_init 4 = .ok (.aload_n 0, 1)) ∧ (decode cX1_init 5 = .ok (.aload_n 1, 1)) ∧ (decode cX1_init 6 = .ok (.putfield 9, 3)) ∧ (decode cX1_init 9 = .ok (.aload_n 0, 1)) ∧ (decode cX1_init 10 = .ok (.aload_n 2, 1)) ∧ (decode cX1_init 11 = .ok (.putfield 15, 3)) := by decide +kernel
theorem dX1_init_0 : decode cX1_init 0 = .ok (.aload_n 0, 1) := eX1_init_0.1
theorem dX1_init_1 : decode cX1_init 1 = .ok (.invokespecial 3, 3) := eX1_init_0.2.1
theorem dX1_init_4 : decode cX1_init 4 = .ok (.aload_n 0, 1) := eX1_init_0.2.2.1
theorem dX1_init_5 : decode cX1_init 5 = .ok (.aload_n 1, 1) := eX1_init_0.2.2.2.1
theorem dX1_init_6 : decode cX1_init 6 = .ok (.putfield 9, 3) := eX1_init_0.2.2.2.2.1
theorem dX1_init_9 : decode cX1_init 9 = .ok (.aload_n 0, 1) := eX1_init_0.2.2.2.2.2.1
theorem dX1_init_10 : decode cX1_init 10 = .ok (.aload_n 2, 1) := eX1_init_0.2.2.2.2.2.2.1
theorem dX1_init_11 : decode cX1_init 11 = .ok (.putfield 15, 3) := eX1_init_0.2.2.2.2.2.2.2
theorem eX1_init_8 : (decode cX1_init 14 = .ok (.aload_n 0, 1)) ∧ (decode cX1_init 15 = .ok (.aload_n 3, 1)) ∧ (decode cX1_init 16 = .ok (.putfield 19, 3)) ∧ (decode cX1_init 19 = .ok (.return_, 1)) := by decide +kernel
theorem dX1_init_14 : decode cX1_init 14 = .ok (.aload_n 0, 1) := eX1_init_8.1
theorem dX1_init_15 : decode cX1_init 15 = .ok (.aload_n 3, 1) := eX1_init_8.2.1
theorem dX1_init_16 : decode cX1_init 16 = .ok (.putfield 19, 3) := eX1_init_8.2.2.1
theorem dX1_init_19 : decode cX1_init 19 = .ok (.return_, 1) := eX1_init_8.2.2.2
theorem eX1_reason_0 : (decode cX1_reason 0 = .ok (.iload_n 3, 1)) ∧ (decode cX1_reason 1 = .ok (.aload_n 0, 1)) ∧ (decode cX1_reason 2 = .ok (.getfield 15, 3)) ∧ (decode cX1_reason 5 = .ok (.getfield 23, 3)) ∧ (decode cX1_reason 8 = .ok (.iload_n 1, 1)) ∧ (decode cX1_reason 9 = .ok (.iaload, 1)) ∧ (decode cX1_reason 10 = .ok (.iadd, 1)) ∧ (decode cX1_reason 11 = .ok (.istore 6, 2)) := by decide +kernel
theorem dX1_reason_0 : decode cX1_reason 0 = .ok (.iload_n 3, 1) := eX1_reason_0.1
theorem dX1_reason_1 : decode cX1_reason 1 = .ok (.aload_n 0, 1) := eX1_reason_0.2.1
theorem dX1_reason_2 : decode cX1_reason 2 = .ok (.getfield 15, 3) := eX1_reason_0.2.2.1
theorem dX1_reason_5 : decode cX1_reason 5 = .ok (.getfield 23, 3) := eX1_reason_0.2.2.2.1
theorem dX1_reason_8 : decode cX1_reason 8 = .ok (.iload_n 1, 1) := eX1_reason_0.2.2.2.2.1
theorem dX1_reason_9 : decode cX1_reason 9 = .ok (.iaload, 1) := eX1_reason_0.2.2.2.2.2.1
theorem dX1_reason_10 : decode cX1_reason 10 = .ok (.iadd, 1) := eX1_reason_0.2.2.2.2.2.2.1
theorem dX1_reason_11 : decode cX1_reason 11 = .ok (.istore 6, 2) := eX1_reason_0.2.2.2.2.2.2.2
theorem eX1_reason_8 : (decode cX1_reason 13 = .ok (.iload 6, 2)) ∧ (decode cX1_reason 15 = .ok (.sipush 14400, 3)) ∧ (decode cX1_reason 18 = .ok (.if_icmp .le 5, 3)) ∧ (decode cX1_reason 21 = .ok (.iconst 1, 1)) ∧ (decode cX1_reason 22 = .ok (.ireturn, 1)) ∧ (decode cX1_reason 23 = .ok (.aload_n 0, 1)) ∧ (decode cX1_reason 24 = .ok (.getfield 9, 3)) ∧ (decode cX1_reason 27 = .ok (.getfield 29, 3)) := by decide +kernel
theorem dX1_reason_13 : decode cX1_reason 13 = .ok (.iload 6, 2) := eX1_reason_8.1
theorem dX1_reason_15 : decode cX1_reason 15 = .ok (.sipush 14400, 3) := eX1_reason_8.2.1
theorem dX1_reason_18 : decode cX1_reason 18 = .ok (.if_icmp .le 5, 3) := eX1_reason_8.2.2.1
theorem dX1_reason_21 : decode cX1_reason 21 = .ok (.iconst 1, 1) := eX1_reason_8.2.2.2.1
theorem dX1_reason_22 : decode cX1_reason 22 = .ok (.ireturn, 1) := eX1_reason_8.2.2.2.2.1
theorem dX1_reason_23 : decode cX1_reason 23 = .ok (.aload_n 0, 1) := eX1_reason_8.2.2.2.2.2.1
theorem dX1_reason_24 : decode cX1_reason 24 = .ok (.getfield 9, 3) := eX1_reason_8.2.2.2.2.2.2.1
theorem dX1_reason_27 : decode cX1_reason 27 = .ok (.getfield 29, 3) := eX1_reason_8.2.2.2.2.2.2.2
theorem eX1_reason_16 : (decode cX1_reason 30 = .ok (.iload_n 2, 1)) ∧ (decode cX1_reason 31 = .ok (.iaload, 1)) ∧ (decode cX1_reason 32 = .ok (.aload_n 0, 1)) ∧ (decode cX1_reason 33 = .ok (.getfield 15, 3)) ∧ (decode cX1_reason 36 = .ok (.getfield 34, 3)) ∧ (decode cX1_reason 39 = .ok (.iload_n 1, 1)) ∧ (decode cX1_reason 40 = .ok (.iaload, 1)) ∧ (decode cX1_reason 41 = .ok (.ishr, 1)) := by decide +kernel
theorem dX1_reason_30 : decode cX1_reason 30 = .ok (.iload_n 2, 1) := eX1_reason_16.1
theorem dX1_reason_31 : decode cX1_reason 31 = .ok (.iaload, 1) := eX1_reason_16.2.1
theorem dX1_reason_32 : decode cX1_reason 32 = .ok (.aload_n 0, 1) := eX1_reason_16.2.2.1
theorem dX1_reason_33 : decode cX1_reason 33 = .ok (.getfield 15, 3) := eX1_reason_16.2.2.2.1
theorem dX1_reason_36 : decode cX1_reason 36 = .ok (.getfield 34, 3) := eX1_reason_16.2.2.2.2.1
theorem dX1_reason_39 : decode cX1_reason 39 = .ok (.iload_n 1, 1) := eX1_reason_16.2.2.2.2.2.1
theorem dX1_reason_40 : decode cX1_reason 40 = .ok (.iaload, 1) := eX1_reason_16.2.2.2.2.2.2.1
theorem dX1_reason_41 : decode cX1_reason 41 = .ok (.ishr, 1) := eX1_reason_16.2.2.2.2.2.2.2
theorem eX1_reason_24 : (decode cX1_reason 42 = .ok (.iconst 1, 1)) ∧ (decode cX1_reason 43 = .ok (.iand, 1)) ∧ (decode cX1_reason 44 = .ok (.ifCond .ne 5, 3)) ∧ (decode cX1_reason 47 = .ok (.iconst 2, 1)) ∧ (decode cX1_reason 48 = .ok (.ireturn, 1)) ∧ (decode cX1_reason 49 = .ok (.aload_n 0, 1)) ∧ (decode cX1_reason 50 = .ok (.iload_n 2, 1)) ∧ (decode cX1_reason 51 = .ok (.iload_n 3, 1)) := by decide +kernel
theorem dX1_reason_42 : decode cX1_reason 42 = .ok (.iconst 1, 1) := eX1_reason_24.1
theorem dX1_reason_43 : decode cX1_reason 43 = .ok (.iand, 1) := eX1_reason_24.2.1
theorem dX1_reason_44 : decode cX1_reason 44 = .ok (.ifCond .ne 5, 3) := eX1_reason_24.2.2.1
theorem dX1_reason_47 : decode cX1_reason 47 = .ok (.iconst 2, 1) := eX1_reason_24.2.2.2.1
theorem dX1_reason_48 : decode cX1_reason 48 = .ok (.ireturn, 1) := eX1_reason_24.2.2.2.2.1
theorem dX1_reason_49 : decode cX1_reason 49 = .ok (.aload_n 0, 1) := eX1_reason_24.2.2.2.2.2.1
theorem dX1_reason_50 : decode cX1_reason 50 = .ok (.iload_n 2, 1) := eX1_reason_24.2.2.2.2.2.2.1
theorem dX1_reason_51 : decode cX1_reason 51 = .ok (.iload_n 3, 1) := eX1_reason_24.2.2.2.2.2.2.2
theorem eX1_reason_32 : (decode cX1_reason 52 = .ok (.iload 6, 2)) ∧ (decode cX1_reason 54 = .ok (.iload 5, 2)) ∧ (decode cX1_reason 56 = .ok (.invokevirtual 37, 3)) ∧ (decode cX1_reason 59 = .ok (.ifCond .eq 5, 3)) ∧ (decode cX1_reason 62 = .ok (.iconst 3, 1)) ∧ (decode cX1_reason 63 = .ok (.ireturn, 1)) ∧ (decode cX1_reason 64 = .ok (.aload_n 0, 1)) ∧ (decode cX1_reason 65 = .ok (.iload_n 1, 1)) := by decide +kernel
theorem dX1_reason_52 : decode cX1_reason 52 = .ok (.iload 6, 2) := eX1_reason_32.1
theorem dX1_reason_54 : decode cX1_reason 54 = .ok (.iload 5, 2) := eX1_reason_32.2.1
theorem dX1_reason_56 : decode cX1_reason 56 = .ok (.invokevirtual 37, 3) := eX1_reason_32.2.2.1
theorem dX1_reason_59 : decode cX1_reason 59 = .ok (.ifCond .eq 5, 3) := eX1_reason_32.2.2.2.1
theorem dX1_reason_62 : decode cX1_reason 62 = .ok (.iconst 3, 1) := eX1_reason_32.2.2.2.2.1
theorem dX1_reason_63 : decode cX1_reason 63 = .ok (.ireturn, 1) := eX1_reason_32.2.2.2.2.2.1
theorem dX1_reason_64 : decode cX1_reason 64 = .ok (.aload_n 0, 1) := eX1_reason_32.2.2.2.2.2.2.1
theorem dX1_reason_65 : decode cX1_reason 65 = .ok (.iload_n 1, 1) := eX1_reason_32.2.2.2.2.2.2.2
theorem eX1_reason_40 : (decode cX1_reason 66 = .ok (.iload_n 2, 1)) ∧ (decode cX1_reason 67 = .ok (.iload_n 3, 1)) ∧ (decode cX1_reason 68 = .ok (.iload 6, 2)) ∧ (decode cX1_reason 70 = .ok (.iload 5, 2)) ∧ (decode cX1_reason 72 = .ok (.invokevirtual 41, 3)) ∧ (decode cX1_reason 75 = .ok (.ifCond .eq 5, 3)) ∧ (decode cX1_reason 78 = .ok (.iconst 4, 1)) ∧ (decode cX1_reason 79 = .ok (.ireturn, 1)) := by decide +kernel
theorem dX1_reason_66 : decode cX1_reason 66 = .ok (.iload_n 2, 1) := eX1_reason_40.1
theorem dX1_reason_67 : decode cX1_reason 67 = .ok (.iload_n 3, 1) := eX1_reason_40.2.1
theorem dX1_reason_68 : decode cX1_reason 68 = .ok (.iload 6, 2) := eX1_reason_40.2.2.1
theorem dX1_reason_70 : decode cX1_reason 70 = .ok (.iload 5, 2) := eX1_reason_40.2.2.2.1
theorem dX1_reason_72 : decode cX1_reason 72 = .ok (.invokevirtual 41, 3) := eX1_reason_40.2.2.2.2.1
theorem dX1_reason_75 : decode cX1_reason 75 = .ok (.ifCond .eq 5, 3) := eX1_reason_40.2.2.2.2.2.1
theorem dX1_reason_78 : decode cX1_reason 78 = .ok (.iconst 4, 1) := eX1_reason_40.2.2.2.2.2.2.1
theorem dX1_reason_79 : decode cX1_reason 79 = .ok (.ireturn, 1) := eX1_reason_40.2.2.2.2.2.2.2
theorem eX1_reason_48 : (decode cX1_reason 80 = .ok (.iload 4, 2)) ∧ (decode cX1_reason 82 = .ok (.iconst 1, 1)) ∧ (decode cX1_reason 83 = .ok (.if_icmp .ne 19, 3)) ∧ (decode cX1_reason 86 = .ok (.aload_n 0, 1)) ∧ (decode cX1_reason 87 = .ok (.getfield 15, 3)) ∧ (decode cX1_reason 90 = .ok (.iload_n 1, 1)) ∧ (decode cX1_reason 91 = .ok (.iload_n 3, 1)) ∧ (decode cX1_reason 92 = .ok (.iload 6, 2)) := by decide +kernel
theorem dX1_reason_80 : decode cX1_reason 80 = .ok (.iload 4, 2) := eX1_reason_48.1
theorem dX1_reason_82 : decode cX1_reason 82 = .ok (.iconst 1, 1) := eX1_reason_48.2.1
theorem dX1_reason_83 : decode cX1_reason 83 = .ok (.if_icmp .ne 19, 3) := eX1_reason_48.2.2.1
theorem dX1_reason_86 : decode cX1_reason 86 = .ok (.aload_n 0, 1) := eX1_reason_48.2.2.2.1
theorem dX1_reason_87 : decode cX1_reason 87 = .ok (.getfield 15, 3) := eX1_reason_48.2.2.2.2.1
theorem dX1_reason_90 : decode cX1_reason 90 = .ok (.iload_n 1, 1) := eX1_reason_48.2.2.2.2.2.1
theorem dX1_reason_91 : decode cX1_reason 91 = .ok (.iload_n 3, 1) := eX1_reason_48.2.2.2.2.2.2.1
theorem dX1_reason_92 : decode cX1_reason 92 = .ok (.iload 6, 2) := eX1_reason_48.2.2.2.2.2.2.2
theorem eX1_reason_56 : (decode cX1_reason 94 = .ok (.invokevirtual 45, 3)) ∧ (decode cX1_reason 97 = .ok (.ifCond .ne 5, 3)) ∧ (decode cX1_reason 100 = .ok (.iconst 5, 1)) ∧ (decode cX1_reason 101 = .ok (.ireturn, 1)) ∧ (decode cX1_reason 102 = .ok (.iload 4, 2)) ∧ (decode cX1_reason 104 = .ok (.iconst 2, 1)) ∧ (decode cX1_reason 105 = .ok (.if_icmp .ne 13, 3)) ∧ (decode cX1_reason 108 = .ok (.iload_n 3, 1)) := by decide +kernel
theorem dX1_reason_94 : decode cX1_reason 94 = .ok (.invokevirtual 45, 3) := eX1_reason_56.1
theorem dX1_reason_97 : decode cX1_reason 97 = .ok (.ifCond .ne 5, 3) := eX1_reason_56.2.1
theorem dX1_reason_100 : decode cX1_reason 100 = .ok (.iconst 5, 1) := eX1_reason_56.2.2.1
theorem dX1_reason_101 : decode cX1_reason 101 = .ok (.ireturn, 1) := eX1_reason_56.2.2.2.1
theorem dX1_reason_102 : decode cX1_reason 102 = .ok (.iload 4, 2) := eX1_reason_56.2.2.2.2.1
theorem dX1_reason_104 : decode cX1_reason 104 = .ok (.iconst 2, 1) := eX1_reason_56.2.2.2.2.2.1
theorem dX1_reason_105 : decode cX1_reason 105 = .ok (.if_icmp .ne 13, 3) := eX1_reason_56.2.2.2.2.2.2.1
theorem dX1_reason_108 : decode cX1_reason 108 = .ok (.iload_n 3, 1) := eX1_reason_56.2.2.2.2.2.2.2
theorem eX1_reason_64 : (decode cX1_reason 109 = .ok (.invokestatic 49, 3)) ∧ (decode cX1_reason 112 = .ok (.ifCond .ne 6, 3)) ∧ (decode cX1_reason 115 = .ok (.bipush 6, 2)) ∧ (decode cX1_reason 117 = .ok (.ireturn, 1)) ∧ (decode cX1_reason 118 = .ok (.iload_n 3, 1)) ∧ (decode cX1_reason 119 = .ok (.aload_n 0, 1)) ∧ (decode cX1_reason 120 = .ok (.getfield 15, 3)) ∧ (decode cX1_reason 123 = .ok (.getfield 53, 3)) := by decide +kernel
theorem dX1_reason_109 : decode cX1_reason 109 = .ok (.invokestatic 49, 3) := eX1_reason_64.1
theorem dX1_reason_112 : decode cX1_reason 112 = .ok (.ifCond .ne 6, 3) := eX1_reason_64.2.1
theorem dX1_reason_115 : decode cX1_reason 115 = .ok (.bipush 6, 2) := eX1_reason_64.2.2.1
theorem dX1_reason_117 : decode cX1_reason 117 = .ok (.ireturn, 1) := eX1_reason_64.2.2.2.1
theorem dX1_reason_118 : decode cX1_reason 118 = .ok (.iload_n 3, 1) := eX1_reason_64.2.2.2.2.1
theorem dX1_reason_119 : decode cX1_reason 119 = .ok (.aload_n 0, 1) := eX1_reason_64.2.2.2.2.2.1
theorem dX1_reason_120 : decode cX1_reason 120 = .ok (.getfield 15, 3) := eX1_reason_64.2.2.2.2.2.2.1
theorem dX1_reason_123 : decode cX1_reason 123 = .ok (.getfield 53, 3) := eX1_reason_64.2.2.2.2.2.2.2
theorem eX1_reason_72 : (decode cX1_reason 126 = .ok (.iload_n 1, 1)) ∧ (decode cX1_reason 127 = .ok (.iaload, 1)) ∧ (decode cX1_reason 128 = .ok (.if_icmp .ge 6, 3)) ∧ (decode cX1_reason 131 = .ok (.bipush 7, 2)) ∧ (decode cX1_reason 133 = .ok (.ireturn, 1)) ∧ (decode cX1_reason 134 = .ok (.aload_n 0, 1)) ∧ (decode cX1_reason 135 = .ok (.getfield 15, 3)) ∧ (decode cX1_reason 138 = .ok (.iload_n 1, 1)) := by decide +kernel
theorem dX1_reason_126 : decode cX1_reason 126 = .ok (.iload_n 1, 1) := eX1_reason_72.1
theorem dX1_reason_127 : decode cX1_reason 127 = .ok (.iaload, 1) := eX1_reason_72.2.1
theorem dX1_reason_128 : decode cX1_reason 128 = .ok (.if_icmp .ge 6, 3) := eX1_reason_72.2.2.1
theorem dX1_reason_131 : decode cX1_reason 131 = .ok (.bipush 7, 2) := eX1_reason_72.2.2.2.1
theorem dX1_reason_133 : decode cX1_reason 133 = .ok (.ireturn, 1) := eX1_reason_72.2.2.2.2.1
theorem dX1_reason_134 : decode cX1_reason 134 = .ok (.aload_n 0, 1) := eX1_reason_72.2.2.2.2.2.1
theorem dX1_reason_135 : decode cX1_reason 135 = .ok (.getfield 15, 3) := eX1_reason_72.2.2.2.2.2.2.1
theorem dX1_reason_138 : decode cX1_reason 138 = .ok (.iload_n 1, 1) := eX1_reason_72.2.2.2.2.2.2.2
theorem eX1_reason_80 : (decode cX1_reason 139 = .ok (.invokevirtual 56, 3)) ∧ (decode cX1_reason 142 = .ok (.ifCond .eq 25, 3)) ∧ (decode cX1_reason 145 = .ok (.aload_n 0, 1)) ∧ (decode cX1_reason 146 = .ok (.iload_n 1, 1)) ∧ (decode cX1_reason 147 = .ok (.iload 5, 2)) ∧ (decode cX1_reason 149 = .ok (.invokevirtual 59, 3)) ∧ (decode cX1_reason 152 = .ok (.aload_n 0, 1)) ∧ (decode cX1_reason 153 = .ok (.getfield 15, 3)) := by decide +kernel
theorem dX1_reason_139 : decode cX1_reason 139 = .ok (.invokevirtual 56, 3) := eX1_reason_80.1
theorem dX1_reason_142 : decode cX1_reason 142 = .ok (.ifCond .eq 25, 3) := eX1_reason_80.2.1
theorem dX1_reason_145 : decode cX1_reason 145 = .ok (.aload_n 0, 1) := eX1_reason_80.2.2.1
theorem dX1_reason_146 : decode cX1_reason 146 = .ok (.iload_n 1, 1) := eX1_reason_80.2.2.2.1
theorem dX1_reason_147 : decode cX1_reason 147 = .ok (.iload 5, 2) := eX1_reason_80.2.2.2.2.1
theorem dX1_reason_149 : decode cX1_reason 149 = .ok (.invokevirtual 59, 3) := eX1_reason_80.2.2.2.2.2.1
theorem dX1_reason_152 : decode cX1_reason 152 = .ok (.aload_n 0, 1) := eX1_reason_80.2.2.2.2.2.2.1
theorem dX1_reason_153 : decode cX1_reason 153 = .ok (.getfield 15, 3) := eX1_reason_80.2.2.2.2.2.2.2
theorem eX1_reason_88 : (decode cX1_reason 156 = .ok (.getfield 63, 3)) ∧ (decode cX1_reason 159 = .ok (.iload_n 1, 1)) ∧ (decode cX1_reason 160 = .ok (.iaload, 1)) ∧ (decode cX1_reason 161 = .ok (.if_icmp .lt 6, 3)) ∧ (decode cX1_reason 164 = .ok (.bipush 8, 2)) ∧ (decode cX1_reason 166 = .ok (.ireturn, 1)) ∧ (decode cX1_reason 167 = .ok (.aload_n 0, 1)) ∧ (decode cX1_reason 168 = .ok (.iload_n 1, 1)) := by decide +kernel
theorem dX1_reason_156 : decode cX1_reason 156 = .ok (.getfield 63, 3) := eX1_reason_88.1
theorem dX1_reason_159 : decode cX1_reason 159 = .ok (.iload_n 1, 1) := eX1_reason_88.2.1
theorem dX1_reason_160 : decode cX1_reason 160 = .ok (.iaload, 1) := eX1_reason_88.2.2.1
theorem dX1_reason_161 : decode cX1_reason 161 = .ok (.if_icmp .lt 6, 3) := eX1_reason_88.2.2.2.1
theorem dX1_reason_164 : decode cX1_reason 164 = .ok (.bipush 8, 2) := eX1_reason_88.2.2.2.2.1
theorem dX1_reason_166 : decode cX1_reason 166 = .ok (.ireturn, 1) := eX1_reason_88.2.2.2.2.2.1
theorem dX1_reason_167 : decode cX1_reason 167 = .ok (.aload_n 0, 1) := eX1_reason_88.2.2.2.2.2.2.1
theorem dX1_reason_168 : decode cX1_reason 168 = .ok (.iload_n 1, 1) := eX1_reason_88.2.2.2.2.2.2.2
theorem eX1_reason_96 : (decode cX1_reason 169 = .ok (.iload_n 2, 1)) ∧ (decode cX1_reason 170 = .ok (.iload_n 3, 1)) ∧ (decode cX1_reason 171 = .ok (.iload 6, 2)) ∧ (decode cX1_reason 173 = .ok (.iload 5, 2)) ∧ (decode cX1_reason 175 = .ok (.invokevirtual 66, 3)) ∧ (decode cX1_reason 178 = .ok (.ifCond .eq 8, 3)) ∧ (decode cX1_reason 181 = .ok (.bipush 9, 2)) ∧ (decode cX1_reason 183 = .ok (.goto 4, 3)) := by decide +kernel
theorem dX1_reason_169 : decode cX1_reason 169 = .ok (.iload_n 2, 1) := eX1_reason_96.1
theorem dX1_reason_170 : decode cX1_reason 170 = .ok (.iload_n 3, 1) := eX1_reason_96.2.1
theorem dX1_reason_171 : decode cX1_reason 171 = .ok (.iload 6, 2) := eX1_reason_96.2.2.1
theorem dX1_reason_173 : decode cX1_reason 173 = .ok (.iload 5, 2) := eX1_reason_96.2.2.2.1
theorem dX1_reason_175 : decode cX1_reason 175 = .ok (.invokevirtual 66, 3) := eX1_reason_96.2.2.2.2.1
theorem dX1_reason_178 : decode cX1_reason 178 = .ok (.ifCond .eq 8, 3) := eX1_reason_96.2.2.2.2.2.1
theorem dX1_reason_181 : decode cX1_reason 181 = .ok (.bipush 9, 2) := eX1_reason_96.2.2.2.2.2.2.1
theorem dX1_reason_183 : decode cX1_reason 183 = .ok (.goto 4, 3) := eX1_reason_96.2.2.2.2.2.2.2
theorem eX1_reason_104 : (decode cX1_reason 186 = .ok (.iconst 0, 1)) ∧ (decode cX1_reason 187 = .ok (.ireturn, 1)) := by decide +kernel
theorem dX1_reason_186 : decode cX1_reason 186 = .ok (.iconst 0, 1) := eX1_reason_104.1
theorem dX1_reason_187 : decode cX1_reason 187 = .ok (.ireturn, 1) := eX1_reason_104.2
theorem eX1_isHallTaken_0 : (decode cX1_isHallTaken 0 = .ok (.aload_n 0, 1)) ∧ (decode cX1_isHallTaken 1 = .ok (.getfield 9, 3)) ∧ (decode cX1_isHallTaken 4 = .ok (.getfield 69, 3)) ∧ (decode cX1_isHallTaken 7 = .ok (.iload_n 1, 1)) ∧ (decode cX1_isHallTaken 8 = .ok (.iaload, 1)) ∧ (decode cX1_isHallTaken 9 = .ok (.istore 5, 2)) ∧ (decode cX1_isHallTaken 11 = .ok (.iconst 0, 1)) ∧ (decode cX1_isHallTaken 12 = .ok (.istore 6, 2)) := by decide +kernel
theorem dX1_isHallTaken_0 : decode cX1_isHallTaken 0 = .ok (.aload_n 0, 1) := eX1_isHallTaken_0.1
theorem dX1_isHallTaken_1 : decode cX1_isHallTaken 1 = .ok (.getfield 9, 3) := eX1_isHallTaken_0.2.1
theorem dX1_isHallTaken_4 : decode cX1_isHallTaken 4 = .ok (.getfield 69, 3) := eX1_isHallTaken_0.2.2.1
theorem dX1_isHallTaken_7 : decode cX1_isHallTaken 7 = .ok (.iload_n 1, 1) := eX1_isHallTaken_0.2.2.2.1
theorem dX1_isHallTaken_8 : decode cX1_isHallTaken 8 = .ok (.iaload, 1) := eX1_isHallTaken_0.2.2.2.2.1
theorem dX1_isHallTaken_9 : decode cX1_isHallTaken 9 = .ok (.istore 5, 2) := eX1_isHallTaken_0.2.2.2.2.2.1
theorem dX1_isHallTaken_11 : decode cX1_isHallTaken 11 = .ok (.iconst 0, 1) := eX1_isHallTaken_0.2.2.2.2.2.2.1
theorem dX1_isHallTaken_12 : decode cX1_isHallTaken 12 = .ok (.istore 6, 2) := eX1_isHallTaken_0.2.2.2.2.2.2.2
theorem eX1_isHallTaken_8 : (decode cX1_isHallTaken 14 = .ok (.iload 6, 2)) ∧ (decode cX1_isHallTaken 16 = .ok (.aload_n 0, 1)) ∧ (decode cX1_isHallTaken 17 = .ok (.getfield 19, 3)) ∧ (decode cX1_isHallTaken 20 = .ok (.getfield 72, 3)) ∧ (decode cX1_isHallTaken 23 = .ok (.if_icmp .ge 79, 3)) ∧ (decode cX1_isHallTaken 26 = .ok (.iload 6, 2)) ∧ (decode cX1_isHallTaken 28 = .ok (.iload 4, 2)) ∧ (decode cX1_isHallTaken 30 = .ok (.if_icmp .eq 66, 3)) := by decide +kernel
theorem dX1_isHallTaken_14 : decode cX1_isHallTaken 14 = .ok (.iload 6, 2) := eX1_isHallTaken_8.1
theorem dX1_isHallTaken_16 : decode cX1_isHallTaken 16 = .ok (.aload_n 0, 1) := eX1_isHallTaken_8.2.1
theorem dX1_isHallTaken_17 : decode cX1_isHallTaken 17 = .ok (.getfield 19, 3) := eX1_isHallTaken_8.2.2.1
theorem dX1_isHallTaken_20 : decode cX1_isHallTaken 20 = .ok (.getfield 72, 3) := eX1_isHallTaken_8.2.2.2.1
theorem dX1_isHallTaken_23 : decode cX1_isHallTaken 23 = .ok (.if_icmp .ge 79, 3) := eX1_isHallTaken_8.2.2.2.2.1
theorem dX1_isHallTaken_26 : decode cX1_isHallTaken 26 = .ok (.iload 6, 2) := eX1_isHallTaken_8.2.2.2.2.2.1
theorem dX1_isHallTaken_28 : decode cX1_isHallTaken 28 = .ok (.iload 4, 2) := eX1_isHallTaken_8.2.2.2.2.2.2.1
theorem dX1_isHallTaken_30 : decode cX1_isHallTaken 30 = .ok (.if_icmp .eq 66, 3) := eX1_isHallTaken_8.2.2.2.2.2.2.2
theorem eX1_isHallTaken_16 : (decode cX1_isHallTaken 33 = .ok (.aload_n 0, 1)) ∧ (decode cX1_isHallTaken 34 = .ok (.getfield 19, 3)) ∧ (decode cX1_isHallTaken 37 = .ok (.getfield 78, 3)) ∧ (decode cX1_isHallTaken 40 = .ok (.iload 6, 2)) ∧ (decode cX1_isHallTaken 42 = .ok (.baload, 1)) ∧ (decode cX1_isHallTaken 43 = .ok (.ifCond .eq 53, 3)) ∧ (decode cX1_isHallTaken 46 = .ok (.aload_n 0, 1)) ∧ (decode cX1_isHallTaken 47 = .ok (.getfield 19, 3)) := by decide +kernel
theorem dX1_isHallTaken_33 : decode cX1_isHallTaken 33 = .ok (.aload_n 0, 1) := eX1_isHallTaken_16.1
theorem dX1_isHallTaken_34 : decode cX1_isHallTaken 34 = .ok (.getfield 19, 3) := eX1_isHallTaken_16.2.1
theorem dX1_isHallTaken_37 : decode cX1_isHallTaken 37 = .ok (.getfield 78, 3) := eX1_isHallTaken_16.2.2.1
theorem dX1_isHallTaken_40 : decode cX1_isHallTaken 40 = .ok (.iload 6, 2) := eX1_isHallTaken_16.2.2.2.1
theorem dX1_isHallTaken_42 : decode cX1_isHallTaken 42 = .ok (.baload, 1) := eX1_isHallTaken_16.2.2.2.2.1
theorem dX1_isHallTaken_43 : decode cX1_isHallTaken 43 = .ok (.ifCond .eq 53, 3) := eX1_isHallTaken_16.2.2.2.2.2.1
theorem dX1_isHallTaken_46 : decode cX1_isHallTaken 46 = .ok (.aload_n 0, 1) := eX1_isHallTaken_16.2.2.2.2.2.2.1
theorem dX1_isHallTaken_47 : decode cX1_isHallTaken 47 = .ok (.getfield 19, 3) := eX1_isHallTaken_16.2.2.2.2.2.2.2
theorem eX1_isHallTaken_24 : (decode cX1_isHallTaken 50 = .ok (.getfield 82, 3)) ∧ (decode cX1_isHallTaken 53 = .ok (.iload 6, 2)) ∧ (decode cX1_isHallTaken 55 = .ok (.iaload, 1)) ∧ (decode cX1_isHallTaken 56 = .ok (.iload_n 1, 1)) ∧ (decode cX1_isHallTaken 57 = .ok (.if_icmp .ne 39, 3)) ∧ (decode cX1_isHallTaken 60 = .ok (.aload_n 0, 1)) ∧ (decode cX1_isHallTaken 61 = .ok (.getfield 19, 3)) ∧ (decode cX1_isHallTaken 64 = .ok (.getfield 85, 3)) := by decide +kernel
theorem dX1_isHallTaken_50 : decode cX1_isHallTaken 50 = .ok (.getfield 82, 3) := eX1_isHallTaken_24.1
theorem dX1_isHallTaken_53 : decode cX1_isHallTaken 53 = .ok (.iload 6, 2) := eX1_isHallTaken_24.2.1
theorem dX1_isHallTaken_55 : decode cX1_isHallTaken 55 = .ok (.iaload, 1) := eX1_isHallTaken_24.2.2.1
theorem dX1_isHallTaken_56 : decode cX1_isHallTaken 56 = .ok (.iload_n 1, 1) := eX1_isHallTaken_24.2.2.2.1
theorem dX1_isHallTaken_57 : decode cX1_isHallTaken 57 = .ok (.if_icmp .ne 39, 3) := eX1_isHallTaken_24.2.2.2.2.1
theorem dX1_isHallTaken_60 : decode cX1_isHallTaken 60 = .ok (.aload_n 0, 1) := eX1_isHallTaken_24.2.2.2.2.2.1
theorem dX1_isHallTaken_61 : decode cX1_isHallTaken 61 = .ok (.getfield 19, 3) := eX1_isHallTaken_24.2.2.2.2.2.2.1
theorem dX1_isHallTaken_64 : decode cX1_isHallTaken 64 = .ok (.getfield 85, 3) := eX1_isHallTaken_24.2.2.2.2.2.2.2
theorem eX1_isHallTaken_32 : (decode cX1_isHallTaken 67 = .ok (.iload 6, 2)) ∧ (decode cX1_isHallTaken 69 = .ok (.iaload, 1)) ∧ (decode cX1_isHallTaken 70 = .ok (.iload_n 3, 1)) ∧ (decode cX1_isHallTaken 71 = .ok (.iload 5, 2)) ∧ (decode cX1_isHallTaken 73 = .ok (.iadd, 1)) ∧ (decode cX1_isHallTaken 74 = .ok (.if_icmp .ge 22, 3)) ∧ (decode cX1_isHallTaken 77 = .ok (.aload_n 0, 1)) ∧ (decode cX1_isHallTaken 78 = .ok (.getfield 19, 3)) := by decide +kernel
theorem dX1_isHallTaken_67 : decode cX1_isHallTaken 67 = .ok (.iload 6, 2) := eX1_isHallTaken_32.1
theorem dX1_isHallTaken_69 : decode cX1_isHallTaken 69 = .ok (.iaload, 1) := eX1_isHallTaken_32.2.1
theorem dX1_isHallTaken_70 : decode cX1_isHallTaken 70 = .ok (.iload_n 3, 1) := eX1_isHallTaken_32.2.2.1
theorem dX1_isHallTaken_71 : decode cX1_isHallTaken 71 = .ok (.iload 5, 2) := eX1_isHallTaken_32.2.2.2.1
theorem dX1_isHallTaken_73 : decode cX1_isHallTaken 73 = .ok (.iadd, 1) := eX1_isHallTaken_32.2.2.2.2.1
theorem dX1_isHallTaken_74 : decode cX1_isHallTaken 74 = .ok (.if_icmp .ge 22, 3) := eX1_isHallTaken_32.2.2.2.2.2.1
theorem dX1_isHallTaken_77 : decode cX1_isHallTaken 77 = .ok (.aload_n 0, 1) := eX1_isHallTaken_32.2.2.2.2.2.2.1
theorem dX1_isHallTaken_78 : decode cX1_isHallTaken 78 = .ok (.getfield 19, 3) := eX1_isHallTaken_32.2.2.2.2.2.2.2
theorem eX1_isHallTaken_40 : (decode cX1_isHallTaken 81 = .ok (.getfield 88, 3)) ∧ (decode cX1_isHallTaken 84 = .ok (.iload 6, 2)) ∧ (decode cX1_isHallTaken 86 = .ok (.iaload, 1)) ∧ (decode cX1_isHallTaken 87 = .ok (.iload 5, 2)) ∧ (decode cX1_isHallTaken 89 = .ok (.iadd, 1)) ∧ (decode cX1_isHallTaken 90 = .ok (.iload_n 2, 1)) ∧ (decode cX1_isHallTaken 91 = .ok (.if_icmp .le 5, 3)) ∧ (decode cX1_isHallTaken 94 = .ok (.iconst 1, 1)) := by decide +kernel
theorem dX1_isHallTaken_81 : decode cX1_isHallTaken 81 = .ok (.getfield 88, 3) := eX1_isHallTaken_40.1
theorem dX1_isHallTaken_84 : decode cX1_isHallTaken 84 = .ok (.iload 6, 2) := eX1_isHallTaken_40.2.1
theorem dX1_isHallTaken_86 : decode cX1_isHallTaken 86 = .ok (.iaload, 1) := eX1_isHallTaken_40.2.2.1
theorem dX1_isHallTaken_87 : decode cX1_isHallTaken 87 = .ok (.iload 5, 2) := eX1_isHallTaken_40.2.2.2.1
theorem dX1_isHallTaken_89 : decode cX1_isHallTaken 89 = .ok (.iadd, 1) := eX1_isHallTaken_40.2.2.2.2.1
theorem dX1_isHallTaken_90 : decode cX1_isHallTaken 90 = .ok (.iload_n 2, 1) := eX1_isHallTaken_40.2.2.2.2.2.1
theorem dX1_isHallTaken_91 : decode cX1_isHallTaken 91 = .ok (.if_icmp .le 5, 3) := eX1_isHallTaken_40.2.2.2.2.2.2.1
theorem dX1_isHallTaken_94 : decode cX1_isHallTaken 94 = .ok (.iconst 1, 1) := eX1_isHallTaken_40.2.2.2.2.2.2.2
theorem eX1_isHallTaken_48 : (decode cX1_isHallTaken 95 = .ok (.ireturn, 1)) ∧ (decode cX1_isHallTaken 96 = .ok (.iinc 6 1, 3)) ∧ (decode cX1_isHallTaken 99 = .ok (.goto (-85), 3)) ∧ (decode cX1_isHallTaken 102 = .ok (.iconst 0, 1)) ∧ (decode cX1_isHallTaken 103 = .ok (.ireturn, 1)) := by decide +kernel
theorem dX1_isHallTaken_95 : decode cX1_isHallTaken 95 = .ok (.ireturn, 1) := eX1_isHallTaken_48.1
theorem dX1_isHallTaken_96 : decode cX1_isHallTaken 96 = .ok (.iinc 6 1, 3) := eX1_isHallTaken_48.2.1
theorem dX1_isHallTaken_99 : decode cX1_isHallTaken 99 = .ok (.goto (-85), 3) := eX1_isHallTaken_48.2.2.1
theorem dX1_isHallTaken_102 : decode cX1_isHallTaken 102 = .ok (.iconst 0, 1) := eX1_isHallTaken_48.2.2.2.1
theorem dX1_isHallTaken_103 : decode cX1_isHallTaken 103 = .ok (.ireturn, 1) := eX1_isHallTaken_48.2.2.2.2
theorem eX1_isPrintAway_0 : (decode cX1_isPrintAway 0 = .ok (.iconst 0, 1)) ∧ (decode cX1_isPrintAway 1 = .ok (.istore 6, 2)) ∧ (decode cX1_isPrintAway 3 = .ok (.iload 6, 2)) ∧ (decode cX1_isPrintAway 5 = .ok (.aload_n 0, 1)) ∧ (decode cX1_isPrintAway 6 = .ok (.getfield 19, 3)) ∧ (decode cX1_isPrintAway 9 = .ok (.getfield 72, 3)) ∧ (decode cX1_isPrintAway 12 = .ok (.if_icmp .ge 155, 3)) ∧ (decode cX1_isPrintAway 15 = .ok (.iload 6, 2)) := by decide +kernel
theorem dX1_isPrintAway_0 : decode cX1_isPrintAway 0 = .ok (.iconst 0, 1) := eX1_isPrintAway_0.1
theorem dX1_isPrintAway_1 : decode cX1_isPrintAway 1 = .ok (.istore 6, 2) := eX1_isPrintAway_0.2.1
theorem dX1_isPrintAway_3 : decode cX1_isPrintAway 3 = .ok (.iload 6, 2) := eX1_isPrintAway_0.2.2.1
theorem dX1_isPrintAway_5 : decode cX1_isPrintAway 5 = .ok (.aload_n 0, 1) := eX1_isPrintAway_0.2.2.2.1
theorem dX1_isPrintAway_6 : decode cX1_isPrintAway 6 = .ok (.getfield 19, 3) := eX1_isPrintAway_0.2.2.2.2.1
theorem dX1_isPrintAway_9 : decode cX1_isPrintAway 9 = .ok (.getfield 72, 3) := eX1_isPrintAway_0.2.2.2.2.2.1
theorem dX1_isPrintAway_12 : decode cX1_isPrintAway 12 = .ok (.if_icmp .ge 155, 3) := eX1_isPrintAway_0.2.2.2.2.2.2.1
theorem dX1_isPrintAway_15 : decode cX1_isPrintAway 15 = .ok (.iload 6, 2) := eX1_isPrintAway_0.2.2.2.2.2.2.2
theorem eX1_isPrintAway_8 : (decode cX1_isPrintAway 17 = .ok (.iload 5, 2)) ∧ (decode cX1_isPrintAway 19 = .ok (.if_icmp .eq 142, 3)) ∧ (decode cX1_isPrintAway 22 = .ok (.aload_n 0, 1)) ∧ (decode cX1_isPrintAway 23 = .ok (.getfield 19, 3)) ∧ (decode cX1_isPrintAway 26 = .ok (.getfield 78, 3)) ∧ (decode cX1_isPrintAway 29 = .ok (.iload 6, 2)) ∧ (decode cX1_isPrintAway 31 = .ok (.baload, 1)) ∧ (decode cX1_isPrintAway 32 = .ok (.ifCond .eq 129, 3)) := by decide +kernel
theorem dX1_isPrintAway_17 : decode cX1_isPrintAway 17 = .ok (.iload 5, 2) := eX1_isPrintAway_8.1
theorem dX1_isPrintAway_19 : decode cX1_isPrintAway 19 = .ok (.if_icmp .eq 142, 3) := eX1_isPrintAway_8.2.1
theorem dX1_isPrintAway_22 : decode cX1_isPrintAway 22 = .ok (.aload_n 0, 1) := eX1_isPrintAway_8.2.2.1
theorem dX1_isPrintAway_23 : decode cX1_isPrintAway 23 = .ok (.getfield 19, 3) := eX1_isPrintAway_8.2.2.2.1
theorem dX1_isPrintAway_26 : decode cX1_isPrintAway 26 = .ok (.getfield 78, 3) := eX1_isPrintAway_8.2.2.2.2.1
theorem dX1_isPrintAway_29 : decode cX1_isPrintAway 29 = .ok (.iload 6, 2) := eX1_isPrintAway_8.2.2.2.2.2.1
theorem dX1_isPrintAway_31 : decode cX1_isPrintAway 31 = .ok (.baload, 1) := eX1_isPrintAway_8.2.2.2.2.2.2.1
theorem dX1_isPrintAway_32 : decode cX1_isPrintAway 32 = .ok (.ifCond .eq 129, 3) := eX1_isPrintAway_8.2.2.2.2.2.2.2
theorem eX1_isPrintAway_16 : (decode cX1_isPrintAway 35 = .ok (.aload_n 0, 1)) ∧ (decode cX1_isPrintAway 36 = .ok (.getfield 19, 3)) ∧ (decode cX1_isPrintAway 39 = .ok (.getfield 91, 3)) ∧ (decode cX1_isPrintAway 42 = .ok (.iload 6, 2)) ∧ (decode cX1_isPrintAway 44 = .ok (.iaload, 1)) ∧ (decode cX1_isPrintAway 45 = .ok (.iload_n 1, 1)) ∧ (decode cX1_isPrintAway 46 = .ok (.if_icmp .eq 6, 3)) ∧ (decode cX1_isPrintAway 49 = .ok (.goto 112, 3)) := by decide +kernel
theorem dX1_isPrintAway_35 : decode cX1_isPrintAway 35 = .ok (.aload_n 0, 1) := eX1_isPrintAway_16.1
theorem dX1_isPrintAway_36 : decode cX1_isPrintAway 36 = .ok (.getfield 19, 3) := eX1_isPrintAway_16.2.1
theorem dX1_isPrintAway_39 : decode cX1_isPrintAway 39 = .ok (.getfield 91, 3) := eX1_isPrintAway_16.2.2.1
theorem dX1_isPrintAway_42 : decode cX1_isPrintAway 42 = .ok (.iload 6, 2) := eX1_isPrintAway_16.2.2.2.1
theorem dX1_isPrintAway_44 : decode cX1_isPrintAway 44 = .ok (.iaload, 1) := eX1_isPrintAway_16.2.2.2.2.1
theorem dX1_isPrintAway_45 : decode cX1_isPrintAway 45 = .ok (.iload_n 1, 1) := eX1_isPrintAway_16.2.2.2.2.2.1
theorem dX1_isPrintAway_46 : decode cX1_isPrintAway 46 = .ok (.if_icmp .eq 6, 3) := eX1_isPrintAway_16.2.2.2.2.2.2.1
theorem dX1_isPrintAway_49 : decode cX1_isPrintAway 49 = .ok (.goto 112, 3) := eX1_isPrintAway_16.2.2.2.2.2.2.2
theorem eX1_isPrintAway_24 : (decode cX1_isPrintAway 52 = .ok (.aload_n 0, 1)) ∧ (decode cX1_isPrintAway 53 = .ok (.getfield 9, 3)) ∧ (decode cX1_isPrintAway 56 = .ok (.iload_n 2, 1)) ∧ (decode cX1_isPrintAway 57 = .ok (.aload_n 0, 1)) ∧ (decode cX1_isPrintAway 58 = .ok (.getfield 19, 3)) ∧ (decode cX1_isPrintAway 61 = .ok (.getfield 82, 3)) ∧ (decode cX1_isPrintAway 64 = .ok (.iload 6, 2)) ∧ (decode cX1_isPrintAway 66 = .ok (.iaload, 1)) := by decide +kernel
theorem dX1_isPrintAway_52 : decode cX1_isPrintAway 52 = .ok (.aload_n 0, 1) := eX1_isPrintAway_24.1
theorem dX1_isPrintAway_53 : decode cX1_isPrintAway 53 = .ok (.getfield 9, 3) := eX1_isPrintAway_24.2.1
theorem dX1_isPrintAway_56 : decode cX1_isPrintAway 56 = .ok (.iload_n 2, 1) := eX1_isPrintAway_24.2.2.1
theorem dX1_isPrintAway_57 : decode cX1_isPrintAway 57 = .ok (.aload_n 0, 1) := eX1_isPrintAway_24.2.2.2.1
theorem dX1_isPrintAway_58 : decode cX1_isPrintAway 58 = .ok (.getfield 19, 3) := eX1_isPrintAway_24.2.2.2.2.1
theorem dX1_isPrintAway_61 : decode cX1_isPrintAway 61 = .ok (.getfield 82, 3) := eX1_isPrintAway_24.2.2.2.2.2.1
theorem dX1_isPrintAway_64 : decode cX1_isPrintAway 64 = .ok (.iload 6, 2) := eX1_isPrintAway_24.2.2.2.2.2.2.1
theorem dX1_isPrintAway_66 : decode cX1_isPrintAway 66 = .ok (.iaload, 1) := eX1_isPrintAway_24.2.2.2.2.2.2.2
theorem eX1_isPrintAway_32 : (decode cX1_isPrintAway 67 = .ok (.invokevirtual 94, 3)) ∧ (decode cX1_isPrintAway 70 = .ok (.istore 7, 2)) ∧ (decode cX1_isPrintAway 72 = .ok (.iload_n 3, 1)) ∧ (decode cX1_isPrintAway 73 = .ok (.aload_n 0, 1)) ∧ (decode cX1_isPrintAway 74 = .ok (.getfield 19, 3)) ∧ (decode cX1_isPrintAway 77 = .ok (.getfield 85, 3)) ∧ (decode cX1_isPrintAway 80 = .ok (.iload 6, 2)) ∧ (decode cX1_isPrintAway 82 = .ok (.iaload, 1)) := by decide +kernel
theorem dX1_isPrintAway_67 : decode cX1_isPrintAway 67 = .ok (.invokevirtual 94, 3) := eX1_isPrintAway_32.1
theorem dX1_isPrintAway_70 : decode cX1_isPrintAway 70 = .ok (.istore 7, 2) := eX1_isPrintAway_32.2.1
theorem dX1_isPrintAway_72 : decode cX1_isPrintAway 72 = .ok (.iload_n 3, 1) := eX1_isPrintAway_32.2.2.1
theorem dX1_isPrintAway_73 : decode cX1_isPrintAway 73 = .ok (.aload_n 0, 1) := eX1_isPrintAway_32.2.2.2.1
theorem dX1_isPrintAway_74 : decode cX1_isPrintAway 74 = .ok (.getfield 19, 3) := eX1_isPrintAway_32.2.2.2.2.1
theorem dX1_isPrintAway_77 : decode cX1_isPrintAway 77 = .ok (.getfield 85, 3) := eX1_isPrintAway_32.2.2.2.2.2.1
theorem dX1_isPrintAway_80 : decode cX1_isPrintAway 80 = .ok (.iload 6, 2) := eX1_isPrintAway_32.2.2.2.2.2.2.1
theorem dX1_isPrintAway_82 : decode cX1_isPrintAway 82 = .ok (.iaload, 1) := eX1_isPrintAway_32.2.2.2.2.2.2.2
theorem eX1_isPrintAway_40 : (decode cX1_isPrintAway 83 = .ok (.if_icmp .le 24, 3)) ∧ (decode cX1_isPrintAway 86 = .ok (.iload_n 3, 1)) ∧ (decode cX1_isPrintAway 87 = .ok (.aload_n 0, 1)) ∧ (decode cX1_isPrintAway 88 = .ok (.getfield 19, 3)) ∧ (decode cX1_isPrintAway 91 = .ok (.getfield 88, 3)) ∧ (decode cX1_isPrintAway 94 = .ok (.iload 6, 2)) ∧ (decode cX1_isPrintAway 96 = .ok (.iaload, 1)) ∧ (decode cX1_isPrintAway 97 = .ok (.iload 7, 2)) := by decide +kernel
theorem dX1_isPrintAway_83 : decode cX1_isPrintAway 83 = .ok (.if_icmp .le 24, 3) := eX1_isPrintAway_40.1
theorem dX1_isPrintAway_86 : decode cX1_isPrintAway 86 = .ok (.iload_n 3, 1) := eX1_isPrintAway_40.2.1
theorem dX1_isPrintAway_87 : decode cX1_isPrintAway 87 = .ok (.aload_n 0, 1) := eX1_isPrintAway_40.2.2.1
theorem dX1_isPrintAway_88 : decode cX1_isPrintAway 88 = .ok (.getfield 19, 3) := eX1_isPrintAway_40.2.2.2.1
theorem dX1_isPrintAway_91 : decode cX1_isPrintAway 91 = .ok (.getfield 88, 3) := eX1_isPrintAway_40.2.2.2.2.1
theorem dX1_isPrintAway_94 : decode cX1_isPrintAway 94 = .ok (.iload 6, 2) := eX1_isPrintAway_40.2.2.2.2.2.1
theorem dX1_isPrintAway_96 : decode cX1_isPrintAway 96 = .ok (.iaload, 1) := eX1_isPrintAway_40.2.2.2.2.2.2.1
theorem dX1_isPrintAway_97 : decode cX1_isPrintAway 97 = .ok (.iload 7, 2) := eX1_isPrintAway_40.2.2.2.2.2.2.2
theorem eX1_isPrintAway_48 : (decode cX1_isPrintAway 99 = .ok (.iadd, 1)) ∧ (decode cX1_isPrintAway 100 = .ok (.if_icmp .lt 7, 3)) ∧ (decode cX1_isPrintAway 103 = .ok (.iconst 1, 1)) ∧ (decode cX1_isPrintAway 104 = .ok (.goto 4, 3)) ∧ (decode cX1_isPrintAway 107 = .ok (.iconst 0, 1)) ∧ (decode cX1_isPrintAway 108 = .ok (.istore 8, 2)) ∧ (decode cX1_isPrintAway 110 = .ok (.iload_n 3, 1)) ∧ (decode cX1_isPrintAway 111 = .ok (.aload_n 0, 1)) := by decide +kernel
theorem dX1_isPrintAway_99 : decode cX1_isPrintAway 99 = .ok (.iadd, 1) := eX1_isPrintAway_48.1
theorem dX1_isPrintAway_100 : decode cX1_isPrintAway 100 = .ok (.if_icmp .lt 7, 3) := eX1_isPrintAway_48.2.1
theorem dX1_isPrintAway_103 : decode cX1_isPrintAway 103 = .ok (.iconst 1, 1) := eX1_isPrintAway_48.2.2.1
theorem dX1_isPrintAway_104 : decode cX1_isPrintAway 104 = .ok (.goto 4, 3) := eX1_isPrintAway_48.2.2.2.1
theorem dX1_isPrintAway_107 : decode cX1_isPrintAway 107 = .ok (.iconst 0, 1) := eX1_isPrintAway_48.2.2.2.2.1
theorem dX1_isPrintAway_108 : decode cX1_isPrintAway 108 = .ok (.istore 8, 2) := eX1_isPrintAway_48.2.2.2.2.2.1
theorem dX1_isPrintAway_110 : decode cX1_isPrintAway 110 = .ok (.iload_n 3, 1) := eX1_isPrintAway_48.2.2.2.2.2.2.1
theorem dX1_isPrintAway_111 : decode cX1_isPrintAway 111 = .ok (.aload_n 0, 1) := eX1_isPrintAway_48.2.2.2.2.2.2.2
theorem eX1_isPrintAway_56 : (decode cX1_isPrintAway 112 = .ok (.getfield 19, 3)) ∧ (decode cX1_isPrintAway 115 = .ok (.getfield 85, 3)) ∧ (decode cX1_isPrintAway 118 = .ok (.iload 6, 2)) ∧ (decode cX1_isPrintAway 120 = .ok (.iaload, 1)) ∧ (decode cX1_isPrintAway 121 = .ok (.if_icmp .ge 25, 3)) ∧ (decode cX1_isPrintAway 124 = .ok (.aload_n 0, 1)) ∧ (decode cX1_isPrintAway 125 = .ok (.getfield 19, 3)) ∧ (decode cX1_isPrintAway 128 = .ok (.getfield 85, 3)) := by decide +kernel
theorem dX1_isPrintAway_112 : decode cX1_isPrintAway 112 = .ok (.getfield 19, 3) := eX1_isPrintAway_56.1
theorem dX1_isPrintAway_115 : decode cX1_isPrintAway 115 = .ok (.getfield 85, 3) := eX1_isPrintAway_56.2.1
theorem dX1_isPrintAway_118 : decode cX1_isPrintAway 118 = .ok (.iload 6, 2) := eX1_isPrintAway_56.2.2.1
theorem dX1_isPrintAway_120 : decode cX1_isPrintAway 120 = .ok (.iaload, 1) := eX1_isPrintAway_56.2.2.2.1
theorem dX1_isPrintAway_121 : decode cX1_isPrintAway 121 = .ok (.if_icmp .ge 25, 3) := eX1_isPrintAway_56.2.2.2.2.1
theorem dX1_isPrintAway_124 : decode cX1_isPrintAway 124 = .ok (.aload_n 0, 1) := eX1_isPrintAway_56.2.2.2.2.2.1
theorem dX1_isPrintAway_125 : decode cX1_isPrintAway 125 = .ok (.getfield 19, 3) := eX1_isPrintAway_56.2.2.2.2.2.2.1
theorem dX1_isPrintAway_128 : decode cX1_isPrintAway 128 = .ok (.getfield 85, 3) := eX1_isPrintAway_56.2.2.2.2.2.2.2
theorem eX1_isPrintAway_64 : (decode cX1_isPrintAway 131 = .ok (.iload 6, 2)) ∧ (decode cX1_isPrintAway 133 = .ok (.iaload, 1)) ∧ (decode cX1_isPrintAway 134 = .ok (.iload 4, 2)) ∧ (decode cX1_isPrintAway 136 = .ok (.iload 7, 2)) ∧ (decode cX1_isPrintAway 138 = .ok (.iadd, 1)) ∧ (decode cX1_isPrintAway 139 = .ok (.if_icmp .lt 7, 3)) ∧ (decode cX1_isPrintAway 142 = .ok (.iconst 1, 1)) ∧ (decode cX1_isPrintAway 143 = .ok (.goto 4, 3)) := by decide +kernel
theorem dX1_isPrintAway_131 : decode cX1_isPrintAway 131 = .ok (.iload 6, 2) := eX1_isPrintAway_64.1
theorem dX1_isPrintAway_133 : decode cX1_isPrintAway 133 = .ok (.iaload, 1) := eX1_isPrintAway_64.2.1
theorem dX1_isPrintAway_134 : decode cX1_isPrintAway 134 = .ok (.iload 4, 2) := eX1_isPrintAway_64.2.2.1
theorem dX1_isPrintAway_136 : decode cX1_isPrintAway 136 = .ok (.iload 7, 2) := eX1_isPrintAway_64.2.2.2.1
theorem dX1_isPrintAway_138 : decode cX1_isPrintAway 138 = .ok (.iadd, 1) := eX1_isPrintAway_64.2.2.2.2.1
theorem dX1_isPrintAway_139 : decode cX1_isPrintAway 139 = .ok (.if_icmp .lt 7, 3) := eX1_isPrintAway_64.2.2.2.2.2.1
theorem dX1_isPrintAway_142 : decode cX1_isPrintAway 142 = .ok (.iconst 1, 1) := eX1_isPrintAway_64.2.2.2.2.2.2.1
theorem dX1_isPrintAway_143 : decode cX1_isPrintAway 143 = .ok (.goto 4, 3) := eX1_isPrintAway_64.2.2.2.2.2.2.2
theorem eX1_isPrintAway_72 : (decode cX1_isPrintAway 146 = .ok (.iconst 0, 1)) ∧ (decode cX1_isPrintAway 147 = .ok (.istore 9, 2)) ∧ (decode cX1_isPrintAway 149 = .ok (.iload 8, 2)) ∧ (decode cX1_isPrintAway 151 = .ok (.ifCond .ne 10, 3)) ∧ (decode cX1_isPrintAway 154 = .ok (.iload 9, 2)) ∧ (decode cX1_isPrintAway 156 = .ok (.ifCond .ne 5, 3)) ∧ (decode cX1_isPrintAway 159 = .ok (.iconst 1, 1)) ∧ (decode cX1_isPrintAway 160 = .ok (.ireturn, 1)) := by decide +kernel
theorem dX1_isPrintAway_146 : decode cX1_isPrintAway 146 = .ok (.iconst 0, 1) := eX1_isPrintAway_72.1
theorem dX1_isPrintAway_147 : decode cX1_isPrintAway 147 = .ok (.istore 9, 2) := eX1_isPrintAway_72.2.1
theorem dX1_isPrintAway_149 : decode cX1_isPrintAway 149 = .ok (.iload 8, 2) := eX1_isPrintAway_72.2.2.1
theorem dX1_isPrintAway_151 : decode cX1_isPrintAway 151 = .ok (.ifCond .ne 10, 3) := eX1_isPrintAway_72.2.2.2.1
theorem dX1_isPrintAway_154 : decode cX1_isPrintAway 154 = .ok (.iload 9, 2) := eX1_isPrintAway_72.2.2.2.2.1
theorem dX1_isPrintAway_156 : decode cX1_isPrintAway 156 = .ok (.ifCond .ne 5, 3) := eX1_isPrintAway_72.2.2.2.2.2.1
theorem dX1_isPrintAway_159 : decode cX1_isPrintAway 159 = .ok (.iconst 1, 1) := eX1_isPrintAway_72.2.2.2.2.2.2.1
theorem dX1_isPrintAway_160 : decode cX1_isPrintAway 160 = .ok (.ireturn, 1) := eX1_isPrintAway_72.2.2.2.2.2.2.2
theorem eX1_isPrintAway_80 : (decode cX1_isPrintAway 161 = .ok (.iinc 6 1, 3)) ∧ (decode cX1_isPrintAway 164 = .ok (.goto (-161), 3)) ∧ (decode cX1_isPrintAway 167 = .ok (.iconst 0, 1)) ∧ (decode cX1_isPrintAway 168 = .ok (.ireturn, 1)) := by decide +kernel
theorem dX1_isPrintAway_161 : decode cX1_isPrintAway 161 = .ok (.iinc 6 1, 3) := eX1_isPrintAway_80.1
theorem dX1_isPrintAway_164 : decode cX1_isPrintAway 164 = .ok (.goto (-161), 3) := eX1_isPrintAway_80.2.1
theorem dX1_isPrintAway_167 : decode cX1_isPrintAway 167 = .ok (.iconst 0, 1) := eX1_isPrintAway_80.2.2.1
theorem dX1_isPrintAway_168 : decode cX1_isPrintAway 168 = .ok (.ireturn, 1) := eX1_isPrintAway_80.2.2.2
theorem eX1_isLateHour_0 : (decode cX1_isLateHour 0 = .ok (.iload_n 0, 1)) ∧ (decode cX1_isLateHour 1 = .ok (.sipush 1440, 3)) ∧ (decode cX1_isLateHour 4 = .ok (.irem, 1)) ∧ (decode cX1_isLateHour 5 = .ok (.istore_n 1, 1)) ∧ (decode cX1_isLateHour 6 = .ok (.iload_n 1, 1)) ∧ (decode cX1_isLateHour 7 = .ok (.sipush 1320, 3)) ∧ (decode cX1_isLateHour 10 = .ok (.if_icmp .ge 9, 3)) ∧ (decode cX1_isLateHour 13 = .ok (.iload_n 1, 1)) := by decide +kernel
theorem dX1_isLateHour_0 : decode cX1_isLateHour 0 = .ok (.iload_n 0, 1) := eX1_isLateHour_0.1
theorem dX1_isLateHour_1 : decode cX1_isLateHour 1 = .ok (.sipush 1440, 3) := eX1_isLateHour_0.2.1
theorem dX1_isLateHour_4 : decode cX1_isLateHour 4 = .ok (.irem, 1) := eX1_isLateHour_0.2.2.1
theorem dX1_isLateHour_5 : decode cX1_isLateHour 5 = .ok (.istore_n 1, 1) := eX1_isLateHour_0.2.2.2.1
theorem dX1_isLateHour_6 : decode cX1_isLateHour 6 = .ok (.iload_n 1, 1) := eX1_isLateHour_0.2.2.2.2.1
theorem dX1_isLateHour_7 : decode cX1_isLateHour 7 = .ok (.sipush 1320, 3) := eX1_isLateHour_0.2.2.2.2.2.1
theorem dX1_isLateHour_10 : decode cX1_isLateHour 10 = .ok (.if_icmp .ge 9, 3) := eX1_isLateHour_0.2.2.2.2.2.2.1
theorem dX1_isLateHour_13 : decode cX1_isLateHour 13 = .ok (.iload_n 1, 1) := eX1_isLateHour_0.2.2.2.2.2.2.2
theorem eX1_isLateHour_8 : (decode cX1_isLateHour 14 = .ok (.bipush 120, 2)) ∧ (decode cX1_isLateHour 16 = .ok (.if_icmp .ge 7, 3)) ∧ (decode cX1_isLateHour 19 = .ok (.iconst 1, 1)) ∧ (decode cX1_isLateHour 20 = .ok (.goto 4, 3)) ∧ (decode cX1_isLateHour 23 = .ok (.iconst 0, 1)) ∧ (decode cX1_isLateHour 24 = .ok (.ireturn, 1)) := by decide +kernel
theorem dX1_isLateHour_14 : decode cX1_isLateHour 14 = .ok (.bipush 120, 2) := eX1_isLateHour_8.1
theorem dX1_isLateHour_16 : decode cX1_isLateHour 16 = .ok (.if_icmp .ge 7, 3) := eX1_isLateHour_8.2.1
theorem dX1_isLateHour_19 : decode cX1_isLateHour 19 = .ok (.iconst 1, 1) := eX1_isLateHour_8.2.2.1
theorem dX1_isLateHour_20 : decode cX1_isLateHour 20 = .ok (.goto 4, 3) := eX1_isLateHour_8.2.2.2.1
theorem dX1_isLateHour_23 : decode cX1_isLateHour 23 = .ok (.iconst 0, 1) := eX1_isLateHour_8.2.2.2.2.1
theorem dX1_isLateHour_24 : decode cX1_isLateHour 24 = .ok (.ireturn, 1) := eX1_isLateHour_8.2.2.2.2.2
theorem eX1_manyOf_0 : (decode cX1_manyOf 0 = .ok (.iconst 0, 1)) ∧ (decode cX1_manyOf 1 = .ok (.istore_n 3, 1)) ∧ (decode cX1_manyOf 2 = .ok (.iconst 0, 1)) ∧ (decode cX1_manyOf 3 = .ok (.istore 4, 2)) ∧ (decode cX1_manyOf 5 = .ok (.iload 4, 2)) ∧ (decode cX1_manyOf 7 = .ok (.aload_n 0, 1)) ∧ (decode cX1_manyOf 8 = .ok (.getfield 19, 3)) ∧ (decode cX1_manyOf 11 = .ok (.getfield 72, 3)) := by decide +kernel
theorem dX1_manyOf_0 : decode cX1_manyOf 0 = .ok (.iconst 0, 1) := eX1_manyOf_0.1
theorem dX1_manyOf_1 : decode cX1_manyOf 1 = .ok (.istore_n 3, 1) := eX1_manyOf_0.2.1
theorem dX1_manyOf_2 : decode cX1_manyOf 2 = .ok (.iconst 0, 1) := eX1_manyOf_0.2.2.1
theorem dX1_manyOf_3 : decode cX1_manyOf 3 = .ok (.istore 4, 2) := eX1_manyOf_0.2.2.2.1
theorem dX1_manyOf_5 : decode cX1_manyOf 5 = .ok (.iload 4, 2) := eX1_manyOf_0.2.2.2.2.1
theorem dX1_manyOf_7 : decode cX1_manyOf 7 = .ok (.aload_n 0, 1) := eX1_manyOf_0.2.2.2.2.2.1
theorem dX1_manyOf_8 : decode cX1_manyOf 8 = .ok (.getfield 19, 3) := eX1_manyOf_0.2.2.2.2.2.2.1
theorem dX1_manyOf_11 : decode cX1_manyOf 11 = .ok (.getfield 72, 3) := eX1_manyOf_0.2.2.2.2.2.2.2
theorem eX1_manyOf_8 : (decode cX1_manyOf 14 = .ok (.if_icmp .ge 45, 3)) ∧ (decode cX1_manyOf 17 = .ok (.iload 4, 2)) ∧ (decode cX1_manyOf 19 = .ok (.iload_n 2, 1)) ∧ (decode cX1_manyOf 20 = .ok (.if_icmp .eq 33, 3)) ∧ (decode cX1_manyOf 23 = .ok (.aload_n 0, 1)) ∧ (decode cX1_manyOf 24 = .ok (.getfield 19, 3)) ∧ (decode cX1_manyOf 27 = .ok (.getfield 78, 3)) ∧ (decode cX1_manyOf 30 = .ok (.iload 4, 2)) := by decide +kernel
theorem dX1_manyOf_14 : decode cX1_manyOf 14 = .ok (.if_icmp .ge 45, 3) := eX1_manyOf_8.1
theorem dX1_manyOf_17 : decode cX1_manyOf 17 = .ok (.iload 4, 2) := eX1_manyOf_8.2.1
theorem dX1_manyOf_19 : decode cX1_manyOf 19 = .ok (.iload_n 2, 1) := eX1_manyOf_8.2.2.1
theorem dX1_manyOf_20 : decode cX1_manyOf 20 = .ok (.if_icmp .eq 33, 3) := eX1_manyOf_8.2.2.2.1
theorem dX1_manyOf_23 : decode cX1_manyOf 23 = .ok (.aload_n 0, 1) := eX1_manyOf_8.2.2.2.2.1
theorem dX1_manyOf_24 : decode cX1_manyOf 24 = .ok (.getfield 19, 3) := eX1_manyOf_8.2.2.2.2.2.1
theorem dX1_manyOf_27 : decode cX1_manyOf 27 = .ok (.getfield 78, 3) := eX1_manyOf_8.2.2.2.2.2.2.1
theorem dX1_manyOf_30 : decode cX1_manyOf 30 = .ok (.iload 4, 2) := eX1_manyOf_8.2.2.2.2.2.2.2
theorem eX1_manyOf_16 : (decode cX1_manyOf 32 = .ok (.baload, 1)) ∧ (decode cX1_manyOf 33 = .ok (.ifCond .eq 20, 3)) ∧ (decode cX1_manyOf 36 = .ok (.aload_n 0, 1)) ∧ (decode cX1_manyOf 37 = .ok (.getfield 19, 3)) ∧ (decode cX1_manyOf 40 = .ok (.getfield 91, 3)) ∧ (decode cX1_manyOf 43 = .ok (.iload 4, 2)) ∧ (decode cX1_manyOf 45 = .ok (.iaload, 1)) ∧ (decode cX1_manyOf 46 = .ok (.iload_n 1, 1)) := by decide +kernel
theorem dX1_manyOf_32 : decode cX1_manyOf 32 = .ok (.baload, 1) := eX1_manyOf_16.1
theorem dX1_manyOf_33 : decode cX1_manyOf 33 = .ok (.ifCond .eq 20, 3) := eX1_manyOf_16.2.1
theorem dX1_manyOf_36 : decode cX1_manyOf 36 = .ok (.aload_n 0, 1) := eX1_manyOf_16.2.2.1
theorem dX1_manyOf_37 : decode cX1_manyOf 37 = .ok (.getfield 19, 3) := eX1_manyOf_16.2.2.2.1
theorem dX1_manyOf_40 : decode cX1_manyOf 40 = .ok (.getfield 91, 3) := eX1_manyOf_16.2.2.2.2.1
theorem dX1_manyOf_43 : decode cX1_manyOf 43 = .ok (.iload 4, 2) := eX1_manyOf_16.2.2.2.2.2.1
theorem dX1_manyOf_45 : decode cX1_manyOf 45 = .ok (.iaload, 1) := eX1_manyOf_16.2.2.2.2.2.2.1
theorem dX1_manyOf_46 : decode cX1_manyOf 46 = .ok (.iload_n 1, 1) := eX1_manyOf_16.2.2.2.2.2.2.2
theorem eX1_manyOf_24 : (decode cX1_manyOf 47 = .ok (.if_icmp .ne 6, 3)) ∧ (decode cX1_manyOf 50 = .ok (.iinc 3 1, 3)) ∧ (decode cX1_manyOf 53 = .ok (.iinc 4 1, 3)) ∧ (decode cX1_manyOf 56 = .ok (.goto (-51), 3)) ∧ (decode cX1_manyOf 59 = .ok (.iload_n 3, 1)) ∧ (decode cX1_manyOf 60 = .ok (.ireturn, 1)) := by decide +kernel
theorem dX1_manyOf_47 : decode cX1_manyOf 47 = .ok (.if_icmp .ne 6, 3) := eX1_manyOf_24.1
theorem dX1_manyOf_50 : decode cX1_manyOf 50 = .ok (.iinc 3 1, 3) := eX1_manyOf_24.2.1
theorem dX1_manyOf_53 : decode cX1_manyOf 53 = .ok (.iinc 4 1, 3) := eX1_manyOf_24.2.2.1
theorem dX1_manyOf_56 : decode cX1_manyOf 56 = .ok (.goto (-51), 3) := eX1_manyOf_24.2.2.2.1
theorem dX1_manyOf_59 : decode cX1_manyOf 59 = .ok (.iload_n 3, 1) := eX1_manyOf_24.2.2.2.2.1
theorem dX1_manyOf_60 : decode cX1_manyOf 60 = .ok (.ireturn, 1) := eX1_manyOf_24.2.2.2.2.2
theorem eX1_isBesideBarred_0 : (decode cX1_isBesideBarred 0 = .ok (.iconst 0, 1)) ∧ (decode cX1_isBesideBarred 1 = .ok (.istore 6, 2)) ∧ (decode cX1_isBesideBarred 3 = .ok (.iload 6, 2)) ∧ (decode cX1_isBesideBarred 5 = .ok (.aload_n 0, 1)) ∧ (decode cX1_isBesideBarred 6 = .ok (.getfield 19, 3)) ∧ (decode cX1_isBesideBarred 9 = .ok (.getfield 72, 3)) ∧ (decode cX1_isBesideBarred 12 = .ok (.if_icmp .ge 88, 3)) ∧ (decode cX1_isBesideBarred 15 = .ok (.iload 6, 2)) := by decide +kernel
theorem dX1_isBesideBarred_0 : decode cX1_isBesideBarred 0 = .ok (.iconst 0, 1) := eX1_isBesideBarred_0.1
theorem dX1_isBesideBarred_1 : decode cX1_isBesideBarred 1 = .ok (.istore 6, 2) := eX1_isBesideBarred_0.2.1
theorem dX1_isBesideBarred_3 : decode cX1_isBesideBarred 3 = .ok (.iload 6, 2) := eX1_isBesideBarred_0.2.2.1
theorem dX1_isBesideBarred_5 : decode cX1_isBesideBarred 5 = .ok (.aload_n 0, 1) := eX1_isBesideBarred_0.2.2.2.1
theorem dX1_isBesideBarred_6 : decode cX1_isBesideBarred 6 = .ok (.getfield 19, 3) := eX1_isBesideBarred_0.2.2.2.2.1
theorem dX1_isBesideBarred_9 : decode cX1_isBesideBarred 9 = .ok (.getfield 72, 3) := eX1_isBesideBarred_0.2.2.2.2.2.1
theorem dX1_isBesideBarred_12 : decode cX1_isBesideBarred 12 = .ok (.if_icmp .ge 88, 3) := eX1_isBesideBarred_0.2.2.2.2.2.2.1
theorem dX1_isBesideBarred_15 : decode cX1_isBesideBarred 15 = .ok (.iload 6, 2) := eX1_isBesideBarred_0.2.2.2.2.2.2.2
theorem eX1_isBesideBarred_8 : (decode cX1_isBesideBarred 17 = .ok (.iload 5, 2)) ∧ (decode cX1_isBesideBarred 19 = .ok (.if_icmp .eq 75, 3)) ∧ (decode cX1_isBesideBarred 22 = .ok (.aload_n 0, 1)) ∧ (decode cX1_isBesideBarred 23 = .ok (.getfield 19, 3)) ∧ (decode cX1_isBesideBarred 26 = .ok (.getfield 78, 3)) ∧ (decode cX1_isBesideBarred 29 = .ok (.iload 6, 2)) ∧ (decode cX1_isBesideBarred 31 = .ok (.baload, 1)) ∧ (decode cX1_isBesideBarred 32 = .ok (.ifCond .eq 62, 3)) := by decide +kernel
theorem dX1_isBesideBarred_17 : decode cX1_isBesideBarred 17 = .ok (.iload 5, 2) := eX1_isBesideBarred_8.1
theorem dX1_isBesideBarred_19 : decode cX1_isBesideBarred 19 = .ok (.if_icmp .eq 75, 3) := eX1_isBesideBarred_8.2.1
theorem dX1_isBesideBarred_22 : decode cX1_isBesideBarred 22 = .ok (.aload_n 0, 1) := eX1_isBesideBarred_8.2.2.1
theorem dX1_isBesideBarred_23 : decode cX1_isBesideBarred 23 = .ok (.getfield 19, 3) := eX1_isBesideBarred_8.2.2.2.1
theorem dX1_isBesideBarred_26 : decode cX1_isBesideBarred 26 = .ok (.getfield 78, 3) := eX1_isBesideBarred_8.2.2.2.2.1
theorem dX1_isBesideBarred_29 : decode cX1_isBesideBarred 29 = .ok (.iload 6, 2) := eX1_isBesideBarred_8.2.2.2.2.2.1
theorem dX1_isBesideBarred_31 : decode cX1_isBesideBarred 31 = .ok (.baload, 1) := eX1_isBesideBarred_8.2.2.2.2.2.2.1
theorem dX1_isBesideBarred_32 : decode cX1_isBesideBarred 32 = .ok (.ifCond .eq 62, 3) := eX1_isBesideBarred_8.2.2.2.2.2.2.2
theorem eX1_isBesideBarred_16 : (decode cX1_isBesideBarred 35 = .ok (.aload_n 0, 1)) ∧ (decode cX1_isBesideBarred 36 = .ok (.getfield 15, 3)) ∧ (decode cX1_isBesideBarred 39 = .ok (.iload_n 1, 1)) ∧ (decode cX1_isBesideBarred 40 = .ok (.aload_n 0, 1)) ∧ (decode cX1_isBesideBarred 41 = .ok (.getfield 19, 3)) ∧ (decode cX1_isBesideBarred 44 = .ok (.getfield 91, 3)) ∧ (decode cX1_isBesideBarred 47 = .ok (.iload 6, 2)) ∧ (decode cX1_isBesideBarred 49 = .ok (.iaload, 1)) := by decide +kernel
theorem dX1_isBesideBarred_35 : decode cX1_isBesideBarred 35 = .ok (.aload_n 0, 1) := eX1_isBesideBarred_16.1
theorem dX1_isBesideBarred_36 : decode cX1_isBesideBarred 36 = .ok (.getfield 15, 3) := eX1_isBesideBarred_16.2.1
theorem dX1_isBesideBarred_39 : decode cX1_isBesideBarred 39 = .ok (.iload_n 1, 1) := eX1_isBesideBarred_16.2.2.1
theorem dX1_isBesideBarred_40 : decode cX1_isBesideBarred 40 = .ok (.aload_n 0, 1) := eX1_isBesideBarred_16.2.2.2.1
theorem dX1_isBesideBarred_41 : decode cX1_isBesideBarred 41 = .ok (.getfield 19, 3) := eX1_isBesideBarred_16.2.2.2.2.1
theorem dX1_isBesideBarred_44 : decode cX1_isBesideBarred 44 = .ok (.getfield 91, 3) := eX1_isBesideBarred_16.2.2.2.2.2.1
theorem dX1_isBesideBarred_47 : decode cX1_isBesideBarred 47 = .ok (.iload 6, 2) := eX1_isBesideBarred_16.2.2.2.2.2.2.1
theorem dX1_isBesideBarred_49 : decode cX1_isBesideBarred 49 = .ok (.iaload, 1) := eX1_isBesideBarred_16.2.2.2.2.2.2.2
theorem eX1_isBesideBarred_24 : (decode cX1_isBesideBarred 50 = .ok (.invokevirtual 97, 3)) ∧ (decode cX1_isBesideBarred 53 = .ok (.ifCond .eq 41, 3)) ∧ (decode cX1_isBesideBarred 56 = .ok (.aload_n 0, 1)) ∧ (decode cX1_isBesideBarred 57 = .ok (.getfield 9, 3)) ∧ (decode cX1_isBesideBarred 60 = .ok (.iload_n 2, 1)) ∧ (decode cX1_isBesideBarred 61 = .ok (.aload_n 0, 1)) ∧ (decode cX1_isBesideBarred 62 = .ok (.getfield 19, 3)) ∧ (decode cX1_isBesideBarred 65 = .ok (.getfield 82, 3)) := by decide +kernel
theorem dX1_isBesideBarred_50 : decode cX1_isBesideBarred 50 = .ok (.invokevirtual 97, 3) := eX1_isBesideBarred_24.1
theorem dX1_isBesideBarred_53 : decode cX1_isBesideBarred 53 = .ok (.ifCond .eq 41, 3) := eX1_isBesideBarred_24.2.1
theorem dX1_isBesideBarred_56 : decode cX1_isBesideBarred 56 = .ok (.aload_n 0, 1) := eX1_isBesideBarred_24.2.2.1
theorem dX1_isBesideBarred_57 : decode cX1_isBesideBarred 57 = .ok (.getfield 9, 3) := eX1_isBesideBarred_24.2.2.2.1
theorem dX1_isBesideBarred_60 : decode cX1_isBesideBarred 60 = .ok (.iload_n 2, 1) := eX1_isBesideBarred_24.2.2.2.2.1
theorem dX1_isBesideBarred_61 : decode cX1_isBesideBarred 61 = .ok (.aload_n 0, 1) := eX1_isBesideBarred_24.2.2.2.2.2.1
theorem dX1_isBesideBarred_62 : decode cX1_isBesideBarred 62 = .ok (.getfield 19, 3) := eX1_isBesideBarred_24.2.2.2.2.2.2.1
theorem dX1_isBesideBarred_65 : decode cX1_isBesideBarred 65 = .ok (.getfield 82, 3) := eX1_isBesideBarred_24.2.2.2.2.2.2.2
theorem eX1_isBesideBarred_32 : (decode cX1_isBesideBarred 68 = .ok (.iload 6, 2)) ∧ (decode cX1_isBesideBarred 70 = .ok (.iaload, 1)) ∧ (decode cX1_isBesideBarred 71 = .ok (.invokevirtual 101, 3)) ∧ (decode cX1_isBesideBarred 74 = .ok (.ifCond .eq 20, 3)) ∧ (decode cX1_isBesideBarred 77 = .ok (.aload_n 0, 1)) ∧ (decode cX1_isBesideBarred 78 = .ok (.getfield 19, 3)) ∧ (decode cX1_isBesideBarred 81 = .ok (.iload 6, 2)) ∧ (decode cX1_isBesideBarred 83 = .ok (.iload_n 3, 1)) := by decide +kernel
theorem dX1_isBesideBarred_68 : decode cX1_isBesideBarred 68 = .ok (.iload 6, 2) := eX1_isBesideBarred_32.1
theorem dX1_isBesideBarred_70 : decode cX1_isBesideBarred 70 = .ok (.iaload, 1) := eX1_isBesideBarred_32.2.1
theorem dX1_isBesideBarred_71 : decode cX1_isBesideBarred 71 = .ok (.invokevirtual 101, 3) := eX1_isBesideBarred_32.2.2.1
theorem dX1_isBesideBarred_74 : decode cX1_isBesideBarred 74 = .ok (.ifCond .eq 20, 3) := eX1_isBesideBarred_32.2.2.2.1
theorem dX1_isBesideBarred_77 : decode cX1_isBesideBarred 77 = .ok (.aload_n 0, 1) := eX1_isBesideBarred_32.2.2.2.2.1
theorem dX1_isBesideBarred_78 : decode cX1_isBesideBarred 78 = .ok (.getfield 19, 3) := eX1_isBesideBarred_32.2.2.2.2.2.1
theorem dX1_isBesideBarred_81 : decode cX1_isBesideBarred 81 = .ok (.iload 6, 2) := eX1_isBesideBarred_32.2.2.2.2.2.2.1
theorem dX1_isBesideBarred_83 : decode cX1_isBesideBarred 83 = .ok (.iload_n 3, 1) := eX1_isBesideBarred_32.2.2.2.2.2.2.2
theorem eX1_isBesideBarred_40 : (decode cX1_isBesideBarred 84 = .ok (.iload 4, 2)) ∧ (decode cX1_isBesideBarred 86 = .ok (.invokevirtual 104, 3)) ∧ (decode cX1_isBesideBarred 89 = .ok (.ifCond .eq 5, 3)) ∧ (decode cX1_isBesideBarred 92 = .ok (.iconst 1, 1)) ∧ (decode cX1_isBesideBarred 93 = .ok (.ireturn, 1)) ∧ (decode cX1_isBesideBarred 94 = .ok (.iinc 6 1, 3)) ∧ (decode cX1_isBesideBarred 97 = .ok (.goto (-94), 3)) ∧ (decode cX1_isBesideBarred 100 = .ok (.iconst 0, 1)) := by decide +kernel
theorem dX1_isBesideBarred_84 : decode cX1_isBesideBarred 84 = .ok (.iload 4, 2) := eX1_isBesideBarred_40.1
theorem dX1_isBesideBarred_86 : decode cX1_isBesideBarred 86 = .ok (.invokevirtual 104, 3) := eX1_isBesideBarred_40.2.1
theorem dX1_isBesideBarred_89 : decode cX1_isBesideBarred 89 = .ok (.ifCond .eq 5, 3) := eX1_isBesideBarred_40.2.2.1
theorem dX1_isBesideBarred_92 : decode cX1_isBesideBarred 92 = .ok (.iconst 1, 1) := eX1_isBesideBarred_40.2.2.2.1
theorem dX1_isBesideBarred_93 : decode cX1_isBesideBarred 93 = .ok (.ireturn, 1) := eX1_isBesideBarred_40.2.2.2.2.1
theorem dX1_isBesideBarred_94 : decode cX1_isBesideBarred 94 = .ok (.iinc 6 1, 3) := eX1_isBesideBarred_40.2.2.2.2.2.1
theorem dX1_isBesideBarred_97 : decode cX1_isBesideBarred 97 = .ok (.goto (-94), 3) := eX1_isBesideBarred_40.2.2.2.2.2.2.1
theorem dX1_isBesideBarred_100 : decode cX1_isBesideBarred 100 = .ok (.iconst 0, 1) := eX1_isBesideBarred_40.2.2.2.2.2.2.2
theorem dX1_isBesideBarred_101 : decode cX1_isBesideBarred 101 = .ok (.ireturn, 1) := by decide +kernel
theorem eX2_init_0 : (decode cX2_init 0 = .ok (.aload_n 0, 1)) ∧ (decode cX2_init 1 = .ok (.invokespecial 3, 3)) ∧ (decode cX2_init 4 = .ok (.aload_n 0, 1)) ∧ (decode cX2_init 5 = .ok (.bipush 20, 2)) ∧ (decode cX2_init 7 = .ok (.newarray .int, 2)) ∧ (decode cX2_init 9 = .ok (.putfield 9, 3)) ∧ (decode cX2_init 12 = .ok (.aload_n 0, 1)) ∧ (decode cX2_init 13 = .ok (.bipush 20, 2)) := by decide +kernel
theorem dX2_init_0 : decode cX2_init 0 = .ok (.aload_n 0, 1) := eX2_init_0.1
theorem dX2_init_1 : decode cX2_init 1 = .ok (.invokespecial 3, 3) := eX2_init_0.2.1
theorem dX2_init_4 : decode cX2_init 4 = .ok (.aload_n 0, 1) := eX2_init_0.2.2.1
theorem dX2_init_5 : decode cX2_init 5 = .ok (.bipush 20, 2) := eX2_init_0.2.2.2.1
theorem dX2_init_7 : decode cX2_init 7 = .ok (.newarray .int, 2) := eX2_init_0.2.2.2.2.1
theorem dX2_init_9 : decode cX2_init 9 = .ok (.putfield 9, 3) := eX2_init_0.2.2.2.2.2.1
theorem dX2_init_12 : decode cX2_init 12 = .ok (.aload_n 0, 1) := eX2_init_0.2.2.2.2.2.2.1
theorem dX2_init_13 : decode cX2_init 13 = .ok (.bipush 20, 2) := eX2_init_0.2.2.2.2.2.2.2
theorem eX2_init_8 : (decode cX2_init 15 = .ok (.newarray .int, 2)) ∧ (decode cX2_init 17 = .ok (.putfield 15, 3)) ∧ (decode cX2_init 20 = .ok (.aload_n 0, 1)) ∧ (decode cX2_init 21 = .ok (.bipush 20, 2)) ∧ (decode cX2_init 23 = .ok (.newarray .int, 2)) ∧ (decode cX2_init 25 = .ok (.putfield 18, 3)) ∧ (decode cX2_init 28 = .ok (.aload_n 0, 1)) ∧ (decode cX2_init 29 = .ok (.bipush 20, 2)) := by decide +kernel
theorem dX2_init_15 : decode cX2_init 15 = .ok (.newarray .int, 2) := eX2_init_8.1
theorem dX2_init_17 : decode cX2_init 17 = .ok (.putfield 15, 3) := eX2_init_8.2.1
theorem dX2_init_20 : decode cX2_init 20 = .ok (.aload_n 0, 1) := eX2_init_8.2.2.1
theorem dX2_init_21 : decode cX2_init 21 = .ok (.bipush 20, 2) := eX2_init_8.2.2.2.1
theorem dX2_init_23 : decode cX2_init 23 = .ok (.newarray .int, 2) := eX2_init_8.2.2.2.2.1
theorem dX2_init_25 : decode cX2_init 25 = .ok (.putfield 18, 3) := eX2_init_8.2.2.2.2.2.1
theorem dX2_init_28 : decode cX2_init 28 = .ok (.aload_n 0, 1) := eX2_init_8.2.2.2.2.2.2.1
theorem dX2_init_29 : decode cX2_init 29 = .ok (.bipush 20, 2) := eX2_init_8.2.2.2.2.2.2.2
theorem eX2_init_16 : (decode cX2_init 31 = .ok (.newarray .int, 2)) ∧ (decode cX2_init 33 = .ok (.putfield 21, 3)) ∧ (decode cX2_init 36 = .ok (.aload_n 0, 1)) ∧ (decode cX2_init 37 = .ok (.bipush 20, 2)) ∧ (decode cX2_init 39 = .ok (.newarray .int, 2)) ∧ (decode cX2_init 41 = .ok (.putfield 24, 3)) ∧ (decode cX2_init 44 = .ok (.aload_n 0, 1)) ∧ (decode cX2_init 45 = .ok (.bipush 20, 2)) := by decide +kernel
theorem dX2_init_31 : decode cX2_init 31 = .ok (.newarray .int, 2) := eX2_init_16.1
theorem dX2_init_33 : decode cX2_init 33 = .ok (.putfield 21, 3) := eX2_init_16.2.1
theorem dX2_init_36 : decode cX2_init 36 = .ok (.aload_n 0, 1) := eX2_init_16.2.2.1
theorem dX2_init_37 : decode cX2_init 37 = .ok (.bipush 20, 2) := eX2_init_16.2.2.2.1
theorem dX2_init_39 : decode cX2_init 39 = .ok (.newarray .int, 2) := eX2_init_16.2.2.2.2.1
theorem dX2_init_41 : decode cX2_init 41 = .ok (.putfield 24, 3) := eX2_init_16.2.2.2.2.2.1
theorem dX2_init_44 : decode cX2_init 44 = .ok (.aload_n 0, 1) := eX2_init_16.2.2.2.2.2.2.1
theorem dX2_init_45 : decode cX2_init 45 = .ok (.bipush 20, 2) := eX2_init_16.2.2.2.2.2.2.2
theorem eX2_init_24 : (decode cX2_init 47 = .ok (.newarray .int, 2)) ∧ (decode cX2_init 49 = .ok (.putfield 27, 3)) ∧ (decode cX2_init 52 = .ok (.aload_n 0, 1)) ∧ (decode cX2_init 53 = .ok (.bipush 20, 2)) ∧ (decode cX2_init 55 = .ok (.newarray .int, 2)) ∧ (decode cX2_init 57 = .ok (.putfield 30, 3)) ∧ (decode cX2_init 60 = .ok (.aload_n 0, 1)) ∧ (decode cX2_init 61 = .ok (.bipush 20, 2)) := by decide +kernel
theorem dX2_init_47 : decode cX2_init 47 = .ok (.newarray .int, 2) := eX2_init_24.1
theorem dX2_init_49 : decode cX2_init 49 = .ok (.putfield 27, 3) := eX2_init_24.2.1
theorem dX2_init_52 : decode cX2_init 52 = .ok (.aload_n 0, 1) := eX2_init_24.2.2.1
theorem dX2_init_53 : decode cX2_init 53 = .ok (.bipush 20, 2) := eX2_init_24.2.2.2.1
theorem dX2_init_55 : decode cX2_init 55 = .ok (.newarray .int, 2) := eX2_init_24.2.2.2.2.1
theorem dX2_init_57 : decode cX2_init 57 = .ok (.putfield 30, 3) := eX2_init_24.2.2.2.2.2.1
theorem dX2_init_60 : decode cX2_init 60 = .ok (.aload_n 0, 1) := eX2_init_24.2.2.2.2.2.2.1
theorem dX2_init_61 : decode cX2_init 61 = .ok (.bipush 20, 2) := eX2_init_24.2.2.2.2.2.2.2
theorem eX2_init_32 : (decode cX2_init 63 = .ok (.newarray .int, 2)) ∧ (decode cX2_init 65 = .ok (.putfield 33, 3)) ∧ (decode cX2_init 68 = .ok (.aload_n 0, 1)) ∧ (decode cX2_init 69 = .ok (.iconst 0, 1)) ∧ (decode cX2_init 70 = .ok (.putfield 36, 3)) ∧ (decode cX2_init 73 = .ok (.return_, 1)) := by decide +kernel
theorem dX2_init_63 : decode cX2_init 63 = .ok (.newarray .int, 2) := eX2_init_32.1
theorem dX2_init_65 : decode cX2_init 65 = .ok (.putfield 33, 3) := eX2_init_32.2.1
theorem dX2_init_68 : decode cX2_init 68 = .ok (.aload_n 0, 1) := eX2_init_32.2.2.1
theorem dX2_init_69 : decode cX2_init 69 = .ok (.iconst 0, 1) := eX2_init_32.2.2.2.1
theorem dX2_init_70 : decode cX2_init 70 = .ok (.putfield 36, 3) := eX2_init_32.2.2.2.2.1
theorem dX2_init_73 : decode cX2_init 73 = .ok (.return_, 1) := eX2_init_32.2.2.2.2.2
theorem eX2_has_0 : (decode cX2_has 0 = .ok (.iload_n 1, 1)) ∧ (decode cX2_has 1 = .ok (.ifCond .lt 15, 3)) ∧ (decode cX2_has 4 = .ok (.iload_n 1, 1)) ∧ (decode cX2_has 5 = .ok (.aload_n 0, 1)) ∧ (decode cX2_has 6 = .ok (.getfield 36, 3)) ∧ (decode cX2_has 9 = .ok (.if_icmp .ge 7, 3)) ∧ (decode cX2_has 12 = .ok (.iconst 1, 1)) ∧ (decode cX2_has 13 = .ok (.goto 4, 3)) := by decide +kernel
theorem dX2_has_0 : decode cX2_has 0 = .ok (.iload_n 1, 1) := eX2_has_0.1
theorem dX2_has_1 : decode cX2_has 1 = .ok (.ifCond .lt 15, 3) := eX2_has_0.2.1
theorem dX2_has_4 : decode cX2_has 4 = .ok (.iload_n 1, 1) := eX2_has_0.2.2.1
theorem dX2_has_5 : decode cX2_has 5 = .ok (.aload_n 0, 1) := eX2_has_0.2.2.2.1
theorem dX2_has_6 : decode cX2_has 6 = .ok (.getfield 36, 3) := eX2_has_0.2.2.2.2.1
theorem dX2_has_9 : decode cX2_has 9 = .ok (.if_icmp .ge 7, 3) := eX2_has_0.2.2.2.2.2.1
theorem dX2_has_12 : decode cX2_has 12 = .ok (.iconst 1, 1) := eX2_has_0.2.2.2.2.2.2.1
theorem dX2_has_13 : decode cX2_has 13 = .ok (.goto 4, 3) := eX2_has_0.2.2.2.2.2.2.2
theorem eX2_has_8 : (decode cX2_has 16 = .ok (.iconst 0, 1)) ∧ (decode cX2_has 17 = .ok (.ireturn, 1)) := by decide +kernel
theorem dX2_has_16 : decode cX2_has 16 = .ok (.iconst 0, 1) := eX2_has_8.1
theorem dX2_has_17 : decode cX2_has 17 = .ok (.ireturn, 1) := eX2_has_8.2
theorem eX2_add_0 : (decode cX2_add 0 = .ok (.aload_n 0, 1)) ∧ (decode cX2_add 1 = .ok (.getfield 36, 3)) ∧ (decode cX2_add 4 = .ok (.bipush 20, 2)) ∧ (decode cX2_add 6 = .ok (.if_icmp .lt 6, 3)) ∧ (decode cX2_add 9 = .ok (.bipush (-5), 2)) ∧ (decode cX2_add 11 = .ok (.ireturn, 1)) ∧ (decode cX2_add 12 = .ok (.aload_n 0, 1)) ∧ (decode cX2_add 13 = .ok (.getfield 9, 3)) := by decide +kernel
theorem dX2_add_0 : decode cX2_add 0 = .ok (.aload_n 0, 1) := eX2_add_0.1
theorem dX2_add_1 : decode cX2_add 1 = .ok (.getfield 36, 3) := eX2_add_0.2.1
theorem dX2_add_4 : decode cX2_add 4 = .ok (.bipush 20, 2) := eX2_add_0.2.2.1
theorem dX2_add_6 : decode cX2_add 6 = .ok (.if_icmp .lt 6, 3) := eX2_add_0.2.2.2.1
theorem dX2_add_9 : decode cX2_add 9 = .ok (.bipush (-5), 2) := eX2_add_0.2.2.2.2.1
theorem dX2_add_11 : decode cX2_add 11 = .ok (.ireturn, 1) := eX2_add_0.2.2.2.2.2.1
theorem dX2_add_12 : decode cX2_add 12 = .ok (.aload_n 0, 1) := eX2_add_0.2.2.2.2.2.2.1
theorem dX2_add_13 : decode cX2_add 13 = .ok (.getfield 9, 3) := eX2_add_0.2.2.2.2.2.2.2
theorem eX2_add_8 : (decode cX2_add 16 = .ok (.aload_n 0, 1)) ∧ (decode cX2_add 17 = .ok (.getfield 36, 3)) ∧ (decode cX2_add 20 = .ok (.iload_n 1, 1)) ∧ (decode cX2_add 21 = .ok (.iastore, 1)) ∧ (decode cX2_add 22 = .ok (.aload_n 0, 1)) ∧ (decode cX2_add 23 = .ok (.getfield 15, 3)) ∧ (decode cX2_add 26 = .ok (.aload_n 0, 1)) ∧ (decode cX2_add 27 = .ok (.getfield 36, 3)) := by decide +kernel
theorem dX2_add_16 : decode cX2_add 16 = .ok (.aload_n 0, 1) := eX2_add_8.1
theorem dX2_add_17 : decode cX2_add 17 = .ok (.getfield 36, 3) := eX2_add_8.2.1
theorem dX2_add_20 : decode cX2_add 20 = .ok (.iload_n 1, 1) := eX2_add_8.2.2.1
theorem dX2_add_21 : decode cX2_add 21 = .ok (.iastore, 1) := eX2_add_8.2.2.2.1
theorem dX2_add_22 : decode cX2_add 22 = .ok (.aload_n 0, 1) := eX2_add_8.2.2.2.2.1
theorem dX2_add_23 : decode cX2_add 23 = .ok (.getfield 15, 3) := eX2_add_8.2.2.2.2.2.1
theorem dX2_add_26 : decode cX2_add 26 = .ok (.aload_n 0, 1) := eX2_add_8.2.2.2.2.2.2.1
theorem dX2_add_27 : decode cX2_add 27 = .ok (.getfield 36, 3) := eX2_add_8.2.2.2.2.2.2.2
theorem eX2_add_16 : (decode cX2_add 30 = .ok (.iload_n 2, 1)) ∧ (decode cX2_add 31 = .ok (.iastore, 1)) ∧ (decode cX2_add 32 = .ok (.aload_n 0, 1)) ∧ (decode cX2_add 33 = .ok (.getfield 18, 3)) ∧ (decode cX2_add 36 = .ok (.aload_n 0, 1)) ∧ (decode cX2_add 37 = .ok (.getfield 36, 3)) ∧ (decode cX2_add 40 = .ok (.iload_n 3, 1)) ∧ (decode cX2_add 41 = .ok (.iastore, 1)) := by decide +kernel
theorem dX2_add_30 : decode cX2_add 30 = .ok (.iload_n 2, 1) := eX2_add_16.1
theorem dX2_add_31 : decode cX2_add 31 = .ok (.iastore, 1) := eX2_add_16.2.1
theorem dX2_add_32 : decode cX2_add 32 = .ok (.aload_n 0, 1) := eX2_add_16.2.2.1
theorem dX2_add_33 : decode cX2_add 33 = .ok (.getfield 18, 3) := eX2_add_16.2.2.2.1
theorem dX2_add_36 : decode cX2_add 36 = .ok (.aload_n 0, 1) := eX2_add_16.2.2.2.2.1
theorem dX2_add_37 : decode cX2_add 37 = .ok (.getfield 36, 3) := eX2_add_16.2.2.2.2.2.1
theorem dX2_add_40 : decode cX2_add 40 = .ok (.iload_n 3, 1) := eX2_add_16.2.2.2.2.2.2.1
theorem dX2_add_41 : decode cX2_add 41 = .ok (.iastore, 1) := eX2_add_16.2.2.2.2.2.2.2
theorem eX2_add_24 : (decode cX2_add 42 = .ok (.aload_n 0, 1)) ∧ (decode cX2_add 43 = .ok (.aload_n 0, 1)) ∧ (decode cX2_add 44 = .ok (.getfield 36, 3)) ∧ (decode cX2_add 47 = .ok (.iconst (-1), 1)) ∧ (decode cX2_add 48 = .ok (.iconst (-1), 1)) ∧ (decode cX2_add 49 = .ok (.invokevirtual 40, 3)) ∧ (decode cX2_add 52 = .ok (.aload_n 0, 1)) ∧ (decode cX2_add 53 = .ok (.aload_n 0, 1)) := by decide +kernel
theorem dX2_add_42 : decode cX2_add 42 = .ok (.aload_n 0, 1) := eX2_add_24.1
theorem dX2_add_43 : decode cX2_add 43 = .ok (.aload_n 0, 1) := eX2_add_24.2.1
theorem dX2_add_44 : decode cX2_add 44 = .ok (.getfield 36, 3) := eX2_add_24.2.2.1
theorem dX2_add_47 : decode cX2_add 47 = .ok (.iconst (-1), 1) := eX2_add_24.2.2.2.1
theorem dX2_add_48 : decode cX2_add 48 = .ok (.iconst (-1), 1) := eX2_add_24.2.2.2.2.1
theorem dX2_add_49 : decode cX2_add 49 = .ok (.invokevirtual 40, 3) := eX2_add_24.2.2.2.2.2.1
theorem dX2_add_52 : decode cX2_add 52 = .ok (.aload_n 0, 1) := eX2_add_24.2.2.2.2.2.2.1
theorem dX2_add_53 : decode cX2_add 53 = .ok (.aload_n 0, 1) := eX2_add_24.2.2.2.2.2.2.2
theorem eX2_add_32 : (decode cX2_add 54 = .ok (.getfield 36, 3)) ∧ (decode cX2_add 57 = .ok (.iconst 0, 1)) ∧ (decode cX2_add 58 = .ok (.bipush 60, 2)) ∧ (decode cX2_add 60 = .ok (.iconst (-1), 1)) ∧ (decode cX2_add 61 = .ok (.invokevirtual 44, 3)) ∧ (decode cX2_add 64 = .ok (.aload_n 0, 1)) ∧ (decode cX2_add 65 = .ok (.dup, 1)) ∧ (decode cX2_add 66 = .ok (.getfield 36, 3)) := by decide +kernel
theorem dX2_add_54 : decode cX2_add 54 = .ok (.getfield 36, 3) := eX2_add_32.1
theorem dX2_add_57 : decode cX2_add 57 = .ok (.iconst 0, 1) := eX2_add_32.2.1
theorem dX2_add_58 : decode cX2_add 58 = .ok (.bipush 60, 2) := eX2_add_32.2.2.1
theorem dX2_add_60 : decode cX2_add 60 = .ok (.iconst (-1), 1) := eX2_add_32.2.2.2.1
theorem dX2_add_61 : decode cX2_add 61 = .ok (.invokevirtual 44, 3) := eX2_add_32.2.2.2.2.1
theorem dX2_add_64 : decode cX2_add 64 = .ok (.aload_n 0, 1) := eX2_add_32.2.2.2.2.2.1
theorem dX2_add_65 : decode cX2_add 65 = .ok (.dup, 1) := eX2_add_32.2.2.2.2.2.2.1
theorem dX2_add_66 : decode cX2_add 66 = .ok (.getfield 36, 3) := eX2_add_32.2.2.2.2.2.2.2
theorem eX2_add_40 : (decode cX2_add 69 = .ok (.iconst 1, 1)) ∧ (decode cX2_add 70 = .ok (.iadd, 1)) ∧ (decode cX2_add 71 = .ok (.putfield 36, 3)) ∧ (decode cX2_add 74 = .ok (.aload_n 0, 1)) ∧ (decode cX2_add 75 = .ok (.getfield 36, 3)) ∧ (decode cX2_add 78 = .ok (.iconst 1, 1)) ∧ (decode cX2_add 79 = .ok (.isub, 1)) ∧ (decode cX2_add 80 = .ok (.ireturn, 1)) := by decide +kernel
theorem dX2_add_69 : decode cX2_add 69 = .ok (.iconst 1, 1) := eX2_add_40.1
theorem dX2_add_70 : decode cX2_add 70 = .ok (.iadd, 1) := eX2_add_40.2.1
theorem dX2_add_71 : decode cX2_add 71 = .ok (.putfield 36, 3) := eX2_add_40.2.2.1
theorem dX2_add_74 : decode cX2_add 74 = .ok (.aload_n 0, 1) := eX2_add_40.2.2.2.1
theorem dX2_add_75 : decode cX2_add 75 = .ok (.getfield 36, 3) := eX2_add_40.2.2.2.2.1
theorem dX2_add_78 : decode cX2_add 78 = .ok (.iconst 1, 1) := eX2_add_40.2.2.2.2.2.1
theorem dX2_add_79 : decode cX2_add 79 = .ok (.isub, 1) := eX2_add_40.2.2.2.2.2.2.1
theorem dX2_add_80 : decode cX2_add 80 = .ok (.ireturn, 1) := eX2_add_40.2.2.2.2.2.2.2
theorem eX2_setGuest_0 : (decode cX2_setGuest 0 = .ok (.aload_n 0, 1)) ∧ (decode cX2_setGuest 1 = .ok (.getfield 21, 3)) ∧ (decode cX2_setGuest 4 = .ok (.iload_n 1, 1)) ∧ (decode cX2_setGuest 5 = .ok (.iload_n 2, 1)) ∧ (decode cX2_setGuest 6 = .ok (.iastore, 1)) ∧ (decode cX2_setGuest 7 = .ok (.aload_n 0, 1)) ∧ (decode cX2_setGuest 8 = .ok (.getfield 24, 3)) ∧ (decode cX2_setGuest 11 = .ok (.iload_n 1, 1)) := by decide +kernel
theorem dX2_setGuest_0 : decode cX2_setGuest 0 = .ok (.aload_n 0, 1) := eX2_setGuest_0.1
theorem dX2_setGuest_1 : decode cX2_setGuest 1 = .ok (.getfield 21, 3) := eX2_setGuest_0.2.1
theorem dX2_setGuest_4 : decode cX2_setGuest 4 = .ok (.iload_n 1, 1) := eX2_setGuest_0.2.2.1
theorem dX2_setGuest_5 : decode cX2_setGuest 5 = .ok (.iload_n 2, 1) := eX2_setGuest_0.2.2.2.1
theorem dX2_setGuest_6 : decode cX2_setGuest 6 = .ok (.iastore, 1) := eX2_setGuest_0.2.2.2.2.1
theorem dX2_setGuest_7 : decode cX2_setGuest 7 = .ok (.aload_n 0, 1) := eX2_setGuest_0.2.2.2.2.2.1
theorem dX2_setGuest_8 : decode cX2_setGuest 8 = .ok (.getfield 24, 3) := eX2_setGuest_0.2.2.2.2.2.2.1
theorem dX2_setGuest_11 : decode cX2_setGuest 11 = .ok (.iload_n 1, 1) := eX2_setGuest_0.2.2.2.2.2.2.2
theorem eX2_setGuest_8 : (decode cX2_setGuest 12 = .ok (.iload_n 3, 1)) ∧ (decode cX2_setGuest 13 = .ok (.iastore, 1)) ∧ (decode cX2_setGuest 14 = .ok (.return_, 1)) := by decide +kernel
theorem dX2_setGuest_12 : decode cX2_setGuest 12 = .ok (.iload_n 3, 1) := eX2_setGuest_8.1
theorem dX2_setGuest_13 : decode cX2_setGuest 13 = .ok (.iastore, 1) := eX2_setGuest_8.2.1
theorem dX2_setGuest_14 : decode cX2_setGuest 14 = .ok (.return_, 1) := eX2_setGuest_8.2.2
theorem eX2_setBars_0 : (decode cX2_setBars 0 = .ok (.aload_n 0, 1)) ∧ (decode cX2_setBars 1 = .ok (.getfield 27, 3)) ∧ (decode cX2_setBars 4 = .ok (.iload_n 1, 1)) ∧ (decode cX2_setBars 5 = .ok (.iload_n 2, 1)) ∧ (decode cX2_setBars 6 = .ok (.iastore, 1)) ∧ (decode cX2_setBars 7 = .ok (.aload_n 0, 1)) ∧ (decode cX2_setBars 8 = .ok (.getfield 30, 3)) ∧ (decode cX2_setBars 11 = .ok (.iload_n 1, 1)) := by decide +kernel
theorem dX2_setBars_0 : decode cX2_setBars 0 = .ok (.aload_n 0, 1) := eX2_setBars_0.1
theorem dX2_setBars_1 : decode cX2_setBars 1 = .ok (.getfield 27, 3) := eX2_setBars_0.2.1
theorem dX2_setBars_4 : decode cX2_setBars 4 = .ok (.iload_n 1, 1) := eX2_setBars_0.2.2.1
theorem dX2_setBars_5 : decode cX2_setBars 5 = .ok (.iload_n 2, 1) := eX2_setBars_0.2.2.2.1
theorem dX2_setBars_6 : decode cX2_setBars 6 = .ok (.iastore, 1) := eX2_setBars_0.2.2.2.2.1
theorem dX2_setBars_7 : decode cX2_setBars 7 = .ok (.aload_n 0, 1) := eX2_setBars_0.2.2.2.2.2.1
theorem dX2_setBars_8 : decode cX2_setBars 8 = .ok (.getfield 30, 3) := eX2_setBars_0.2.2.2.2.2.2.1
theorem dX2_setBars_11 : decode cX2_setBars 11 = .ok (.iload_n 1, 1) := eX2_setBars_0.2.2.2.2.2.2.2
theorem eX2_setBars_8 : (decode cX2_setBars 12 = .ok (.iload_n 3, 1)) ∧ (decode cX2_setBars 13 = .ok (.iastore, 1)) ∧ (decode cX2_setBars 14 = .ok (.aload_n 0, 1)) ∧ (decode cX2_setBars 15 = .ok (.getfield 33, 3)) ∧ (decode cX2_setBars 18 = .ok (.iload_n 1, 1)) ∧ (decode cX2_setBars 19 = .ok (.iload 4, 2)) ∧ (decode cX2_setBars 21 = .ok (.iastore, 1)) ∧ (decode cX2_setBars 22 = .ok (.return_, 1)) := by decide +kernel
theorem dX2_setBars_12 : decode cX2_setBars 12 = .ok (.iload_n 3, 1) := eX2_setBars_8.1
theorem dX2_setBars_13 : decode cX2_setBars 13 = .ok (.iastore, 1) := eX2_setBars_8.2.1
theorem dX2_setBars_14 : decode cX2_setBars 14 = .ok (.aload_n 0, 1) := eX2_setBars_8.2.2.1
theorem dX2_setBars_15 : decode cX2_setBars 15 = .ok (.getfield 33, 3) := eX2_setBars_8.2.2.2.1
theorem dX2_setBars_18 : decode cX2_setBars 18 = .ok (.iload_n 1, 1) := eX2_setBars_8.2.2.2.2.1
theorem dX2_setBars_19 : decode cX2_setBars 19 = .ok (.iload 4, 2) := eX2_setBars_8.2.2.2.2.2.1
theorem dX2_setBars_21 : decode cX2_setBars 21 = .ok (.iastore, 1) := eX2_setBars_8.2.2.2.2.2.2.1
theorem dX2_setBars_22 : decode cX2_setBars 22 = .ok (.return_, 1) := eX2_setBars_8.2.2.2.2.2.2.2
theorem eX2_guestStays_0 : (decode cX2_guestStays 0 = .ok (.aload_n 0, 1)) ∧ (decode cX2_guestStays 1 = .ok (.getfield 21, 3)) ∧ (decode cX2_guestStays 4 = .ok (.iload_n 1, 1)) ∧ (decode cX2_guestStays 5 = .ok (.iaload, 1)) ∧ (decode cX2_guestStays 6 = .ok (.iconst (-1), 1)) ∧ (decode cX2_guestStays 7 = .ok (.if_icmp .eq 27, 3)) ∧ (decode cX2_guestStays 10 = .ok (.aload_n 0, 1)) ∧ (decode cX2_guestStays 11 = .ok (.getfield 21, 3)) := by decide +kernel
theorem dX2_guestStays_0 : decode cX2_guestStays 0 = .ok (.aload_n 0, 1) := eX2_guestStays_0.1
theorem dX2_guestStays_1 : decode cX2_guestStays 1 = .ok (.getfield 21, 3) := eX2_guestStays_0.2.1
theorem dX2_guestStays_4 : decode cX2_guestStays 4 = .ok (.iload_n 1, 1) := eX2_guestStays_0.2.2.1
theorem dX2_guestStays_5 : decode cX2_guestStays 5 = .ok (.iaload, 1) := eX2_guestStays_0.2.2.2.1
theorem dX2_guestStays_6 : decode cX2_guestStays 6 = .ok (.iconst (-1), 1) := eX2_guestStays_0.2.2.2.2.1
theorem dX2_guestStays_7 : decode cX2_guestStays 7 = .ok (.if_icmp .eq 27, 3) := eX2_guestStays_0.2.2.2.2.2.1
theorem dX2_guestStays_10 : decode cX2_guestStays 10 = .ok (.aload_n 0, 1) := eX2_guestStays_0.2.2.2.2.2.2.1
theorem dX2_guestStays_11 : decode cX2_guestStays 11 = .ok (.getfield 21, 3) := eX2_guestStays_0.2.2.2.2.2.2.2
theorem eX2_guestStays_8 : (decode cX2_guestStays 14 = .ok (.iload_n 1, 1)) ∧ (decode cX2_guestStays 15 = .ok (.iaload, 1)) ∧ (decode cX2_guestStays 16 = .ok (.iload_n 2, 1)) ∧ (decode cX2_guestStays 17 = .ok (.if_icmp .gt 17, 3)) ∧ (decode cX2_guestStays 20 = .ok (.aload_n 0, 1)) ∧ (decode cX2_guestStays 21 = .ok (.getfield 24, 3)) ∧ (decode cX2_guestStays 24 = .ok (.iload_n 1, 1)) ∧ (decode cX2_guestStays 25 = .ok (.iaload, 1)) := by decide +kernel
theorem dX2_guestStays_14 : decode cX2_guestStays 14 = .ok (.iload_n 1, 1) := eX2_guestStays_8.1
theorem dX2_guestStays_15 : decode cX2_guestStays 15 = .ok (.iaload, 1) := eX2_guestStays_8.2.1
theorem dX2_guestStays_16 : decode cX2_guestStays 16 = .ok (.iload_n 2, 1) := eX2_guestStays_8.2.2.1
theorem dX2_guestStays_17 : decode cX2_guestStays 17 = .ok (.if_icmp .gt 17, 3) := eX2_guestStays_8.2.2.2.1
theorem dX2_guestStays_20 : decode cX2_guestStays 20 = .ok (.aload_n 0, 1) := eX2_guestStays_8.2.2.2.2.1
theorem dX2_guestStays_21 : decode cX2_guestStays 21 = .ok (.getfield 24, 3) := eX2_guestStays_8.2.2.2.2.2.1
theorem dX2_guestStays_24 : decode cX2_guestStays 24 = .ok (.iload_n 1, 1) := eX2_guestStays_8.2.2.2.2.2.2.1
theorem dX2_guestStays_25 : decode cX2_guestStays 25 = .ok (.iaload, 1) := eX2_guestStays_8.2.2.2.2.2.2.2
theorem eX2_guestStays_16 : (decode cX2_guestStays 26 = .ok (.iload_n 3, 1)) ∧ (decode cX2_guestStays 27 = .ok (.if_icmp .lt 7, 3)) ∧ (decode cX2_guestStays 30 = .ok (.iconst 1, 1)) ∧ (decode cX2_guestStays 31 = .ok (.goto 4, 3)) ∧ (decode cX2_guestStays 34 = .ok (.iconst 0, 1)) ∧ (decode cX2_guestStays 35 = .ok (.ireturn, 1)) := by decide +kernel
theorem dX2_guestStays_26 : decode cX2_guestStays 26 = .ok (.iload_n 3, 1) := eX2_guestStays_16.1
theorem dX2_guestStays_27 : decode cX2_guestStays 27 = .ok (.if_icmp .lt 7, 3) := eX2_guestStays_16.2.1
theorem dX2_guestStays_30 : decode cX2_guestStays 30 = .ok (.iconst 1, 1) := eX2_guestStays_16.2.2.1
theorem dX2_guestStays_31 : decode cX2_guestStays 31 = .ok (.goto 4, 3) := eX2_guestStays_16.2.2.2.1
theorem dX2_guestStays_34 : decode cX2_guestStays 34 = .ok (.iconst 0, 1) := eX2_guestStays_16.2.2.2.2.1
theorem dX2_guestStays_35 : decode cX2_guestStays 35 = .ok (.ireturn, 1) := eX2_guestStays_16.2.2.2.2.2
theorem eX2_isBarredAtMost_0 : (decode cX2_isBarredAtMost 0 = .ok (.aload_n 0, 1)) ∧ (decode cX2_isBarredAtMost 1 = .ok (.getfield 30, 3)) ∧ (decode cX2_isBarredAtMost 4 = .ok (.iload_n 1, 1)) ∧ (decode cX2_isBarredAtMost 5 = .ok (.iaload, 1)) ∧ (decode cX2_isBarredAtMost 6 = .ok (.bipush 60, 2)) ∧ (decode cX2_isBarredAtMost 8 = .ok (.if_icmp .eq 7, 3)) ∧ (decode cX2_isBarredAtMost 11 = .ok (.iconst 1, 1)) ∧ (decode cX2_isBarredAtMost 12 = .ok (.goto 4, 3)) := by decide +kernel
theorem dX2_isBarredAtMost_0 : decode cX2_isBarredAtMost 0 = .ok (.aload_n 0, 1) := eX2_isBarredAtMost_0.1
theorem dX2_isBarredAtMost_1 : decode cX2_isBarredAtMost 1 = .ok (.getfield 30, 3) := eX2_isBarredAtMost_0.2.1
theorem dX2_isBarredAtMost_4 : decode cX2_isBarredAtMost 4 = .ok (.iload_n 1, 1) := eX2_isBarredAtMost_0.2.2.1
theorem dX2_isBarredAtMost_5 : decode cX2_isBarredAtMost 5 = .ok (.iaload, 1) := eX2_isBarredAtMost_0.2.2.2.1
theorem dX2_isBarredAtMost_6 : decode cX2_isBarredAtMost 6 = .ok (.bipush 60, 2) := eX2_isBarredAtMost_0.2.2.2.2.1
theorem dX2_isBarredAtMost_8 : decode cX2_isBarredAtMost 8 = .ok (.if_icmp .eq 7, 3) := eX2_isBarredAtMost_0.2.2.2.2.2.1
theorem dX2_isBarredAtMost_11 : decode cX2_isBarredAtMost 11 = .ok (.iconst 1, 1) := eX2_isBarredAtMost_0.2.2.2.2.2.2.1
theorem dX2_isBarredAtMost_12 : decode cX2_isBarredAtMost 12 = .ok (.goto 4, 3) := eX2_isBarredAtMost_0.2.2.2.2.2.2.2
theorem eX2_isBarredAtMost_8 : (decode cX2_isBarredAtMost 15 = .ok (.iconst 0, 1)) ∧ (decode cX2_isBarredAtMost 16 = .ok (.ireturn, 1)) := by decide +kernel
theorem dX2_isBarredAtMost_15 : decode cX2_isBarredAtMost 15 = .ok (.iconst 0, 1) := eX2_isBarredAtMost_8.1
theorem dX2_isBarredAtMost_16 : decode cX2_isBarredAtMost 16 = .ok (.ireturn, 1) := eX2_isBarredAtMost_8.2
theorem eX2_barOneAnother_0 : (decode cX2_barOneAnother 0 = .ok (.aload_n 0, 1)) ∧ (decode cX2_barOneAnother 1 = .ok (.getfield 33, 3)) ∧ (decode cX2_barOneAnother 4 = .ok (.iload_n 1, 1)) ∧ (decode cX2_barOneAnother 5 = .ok (.iaload, 1)) ∧ (decode cX2_barOneAnother 6 = .ok (.iload_n 2, 1)) ∧ (decode cX2_barOneAnother 7 = .ok (.if_icmp .eq 13, 3)) ∧ (decode cX2_barOneAnother 10 = .ok (.aload_n 0, 1)) ∧ (decode cX2_barOneAnother 11 = .ok (.getfield 33, 3)) := by decide +kernel
theorem dX2_barOneAnother_0 : decode cX2_barOneAnother 0 = .ok (.aload_n 0, 1) := eX2_barOneAnother_0.1
theorem dX2_barOneAnother_1 : decode cX2_barOneAnother 1 = .ok (.getfield 33, 3) := eX2_barOneAnother_0.2.1
theorem dX2_barOneAnother_4 : decode cX2_barOneAnother 4 = .ok (.iload_n 1, 1) := eX2_barOneAnother_0.2.2.1
theorem dX2_barOneAnother_5 : decode cX2_barOneAnother 5 = .ok (.iaload, 1) := eX2_barOneAnother_0.2.2.2.1
theorem dX2_barOneAnother_6 : decode cX2_barOneAnother 6 = .ok (.iload_n 2, 1) := eX2_barOneAnother_0.2.2.2.2.1
theorem dX2_barOneAnother_7 : decode cX2_barOneAnother 7 = .ok (.if_icmp .eq 13, 3) := eX2_barOneAnother_0.2.2.2.2.2.1
theorem dX2_barOneAnother_10 : decode cX2_barOneAnother 10 = .ok (.aload_n 0, 1) := eX2_barOneAnother_0.2.2.2.2.2.2.1
theorem dX2_barOneAnother_11 : decode cX2_barOneAnother 11 = .ok (.getfield 33, 3) := eX2_barOneAnother_0.2.2.2.2.2.2.2
theorem eX2_barOneAnother_8 : (decode cX2_barOneAnother 14 = .ok (.iload_n 2, 1)) ∧ (decode cX2_barOneAnother 15 = .ok (.iaload, 1)) ∧ (decode cX2_barOneAnother 16 = .ok (.iload_n 1, 1)) ∧ (decode cX2_barOneAnother 17 = .ok (.if_icmp .ne 7, 3)) ∧ (decode cX2_barOneAnother 20 = .ok (.iconst 1, 1)) ∧ (decode cX2_barOneAnother 21 = .ok (.goto 4, 3)) ∧ (decode cX2_barOneAnother 24 = .ok (.iconst 0, 1)) ∧ (decode cX2_barOneAnother 25 = .ok (.ireturn, 1)) := by decide +kernel
theorem dX2_barOneAnother_14 : decode cX2_barOneAnother 14 = .ok (.iload_n 2, 1) := eX2_barOneAnother_8.1
theorem dX2_barOneAnother_15 : decode cX2_barOneAnother 15 = .ok (.iaload, 1) := eX2_barOneAnother_8.2.1
theorem dX2_barOneAnother_16 : decode cX2_barOneAnother 16 = .ok (.iload_n 1, 1) := eX2_barOneAnother_8.2.2.1
theorem dX2_barOneAnother_17 : decode cX2_barOneAnother 17 = .ok (.if_icmp .ne 7, 3) := eX2_barOneAnother_8.2.2.2.1
theorem dX2_barOneAnother_20 : decode cX2_barOneAnother 20 = .ok (.iconst 1, 1) := eX2_barOneAnother_8.2.2.2.2.1
theorem dX2_barOneAnother_21 : decode cX2_barOneAnother 21 = .ok (.goto 4, 3) := eX2_barOneAnother_8.2.2.2.2.2.1
theorem dX2_barOneAnother_24 : decode cX2_barOneAnother 24 = .ok (.iconst 0, 1) := eX2_barOneAnother_8.2.2.2.2.2.2.1
theorem dX2_barOneAnother_25 : decode cX2_barOneAnother 25 = .ok (.ireturn, 1) := eX2_barOneAnother_8.2.2.2.2.2.2.2
theorem eX3_init_0 : (decode cX3_init 0 = .ok (.aload_n 0, 1)) ∧ (decode cX3_init 1 = .ok (.invokespecial 3, 3)) ∧ (decode cX3_init 4 = .ok (.aload_n 0, 1)) ∧ (decode cX3_init 5 = .ok (.iconst 4, 1)) ∧ (decode cX3_init 6 = .ok (.newarray .int, 2)) ∧ (decode cX3_init 8 = .ok (.putfield 9, 3)) ∧ (decode cX3_init 11 = .ok (.aload_n 0, 1)) ∧ (decode cX3_init 12 = .ok (.iconst 4, 1)) := by decide +kernel
theorem dX3_init_0 : decode cX3_init 0 = .ok (.aload_n 0, 1) := eX3_init_0.1
theorem dX3_init_1 : decode cX3_init 1 = .ok (.invokespecial 3, 3) := eX3_init_0.2.1
theorem dX3_init_4 : decode cX3_init 4 = .ok (.aload_n 0, 1) := eX3_init_0.2.2.1
theorem dX3_init_5 : decode cX3_init 5 = .ok (.iconst 4, 1) := eX3_init_0.2.2.2.1
theorem dX3_init_6 : decode cX3_init 6 = .ok (.newarray .int, 2) := eX3_init_0.2.2.2.2.1
theorem dX3_init_8 : decode cX3_init 8 = .ok (.putfield 9, 3) := eX3_init_0.2.2.2.2.2.1
theorem dX3_init_11 : decode cX3_init 11 = .ok (.aload_n 0, 1) := eX3_init_0.2.2.2.2.2.2.1
theorem dX3_init_12 : decode cX3_init 12 = .ok (.iconst 4, 1) := eX3_init_0.2.2.2.2.2.2.2
theorem eX3_init_8 : (decode cX3_init 13 = .ok (.newarray .int, 2)) ∧ (decode cX3_init 15 = .ok (.putfield 15, 3)) ∧ (decode cX3_init 18 = .ok (.aload_n 0, 1)) ∧ (decode cX3_init 19 = .ok (.iconst 4, 1)) ∧ (decode cX3_init 20 = .ok (.newarray .int, 2)) ∧ (decode cX3_init 22 = .ok (.putfield 18, 3)) ∧ (decode cX3_init 25 = .ok (.aload_n 0, 1)) ∧ (decode cX3_init 26 = .ok (.iconst 4, 1)) := by decide +kernel
theorem dX3_init_13 : decode cX3_init 13 = .ok (.newarray .int, 2) := eX3_init_8.1
theorem dX3_init_15 : decode cX3_init 15 = .ok (.putfield 15, 3) := eX3_init_8.2.1
theorem dX3_init_18 : decode cX3_init 18 = .ok (.aload_n 0, 1) := eX3_init_8.2.2.1
theorem dX3_init_19 : decode cX3_init 19 = .ok (.iconst 4, 1) := eX3_init_8.2.2.2.1
theorem dX3_init_20 : decode cX3_init 20 = .ok (.newarray .int, 2) := eX3_init_8.2.2.2.2.1
theorem dX3_init_22 : decode cX3_init 22 = .ok (.putfield 18, 3) := eX3_init_8.2.2.2.2.2.1
theorem dX3_init_25 : decode cX3_init 25 = .ok (.aload_n 0, 1) := eX3_init_8.2.2.2.2.2.2.1
theorem dX3_init_26 : decode cX3_init 26 = .ok (.iconst 4, 1) := eX3_init_8.2.2.2.2.2.2.2
theorem eX3_init_16 : (decode cX3_init 27 = .ok (.newarray .int, 2)) ∧ (decode cX3_init 29 = .ok (.putfield 21, 3)) ∧ (decode cX3_init 32 = .ok (.aload_n 0, 1)) ∧ (decode cX3_init 33 = .ok (.bipush 25, 2)) ∧ (decode cX3_init 35 = .ok (.newarray .int, 2)) ∧ (decode cX3_init 37 = .ok (.putfield 24, 3)) ∧ (decode cX3_init 40 = .ok (.aload_n 0, 1)) ∧ (decode cX3_init 41 = .ok (.iconst 0, 1)) := by decide +kernel
theorem dX3_init_27 : decode cX3_init 27 = .ok (.newarray .int, 2) := eX3_init_16.1
theorem dX3_init_29 : decode cX3_init 29 = .ok (.putfield 21, 3) := eX3_init_16.2.1
theorem dX3_init_32 : decode cX3_init 32 = .ok (.aload_n 0, 1) := eX3_init_16.2.2.1
theorem dX3_init_33 : decode cX3_init 33 = .ok (.bipush 25, 2) := eX3_init_16.2.2.2.1
theorem dX3_init_35 : decode cX3_init 35 = .ok (.newarray .int, 2) := eX3_init_16.2.2.2.2.1
theorem dX3_init_37 : decode cX3_init 37 = .ok (.putfield 24, 3) := eX3_init_16.2.2.2.2.2.1
theorem dX3_init_40 : decode cX3_init 40 = .ok (.aload_n 0, 1) := eX3_init_16.2.2.2.2.2.2.1
theorem dX3_init_41 : decode cX3_init 41 = .ok (.iconst 0, 1) := eX3_init_16.2.2.2.2.2.2.2
theorem eX3_init_24 : (decode cX3_init 42 = .ok (.putfield 27, 3)) ∧ (decode cX3_init 45 = .ok (.return_, 1)) := by decide +kernel
theorem dX3_init_42 : decode cX3_init 42 = .ok (.putfield 27, 3) := eX3_init_24.1
theorem dX3_init_45 : decode cX3_init 45 = .ok (.return_, 1) := eX3_init_24.2
theorem eX3_has_0 : (decode cX3_has 0 = .ok (.iload_n 1, 1)) ∧ (decode cX3_has 1 = .ok (.ifCond .lt 15, 3)) ∧ (decode cX3_has 4 = .ok (.iload_n 1, 1)) ∧ (decode cX3_has 5 = .ok (.aload_n 0, 1)) ∧ (decode cX3_has 6 = .ok (.getfield 27, 3)) ∧ (decode cX3_has 9 = .ok (.if_icmp .ge 7, 3)) ∧ (decode cX3_has 12 = .ok (.iconst 1, 1)) ∧ (decode cX3_has 13 = .ok (.goto 4, 3)) := by decide +kernel
theorem dX3_has_0 : decode cX3_has 0 = .ok (.iload_n 1, 1) := eX3_has_0.1
theorem dX3_has_1 : decode cX3_has 1 = .ok (.ifCond .lt 15, 3) := eX3_has_0.2.1
theorem dX3_has_4 : decode cX3_has 4 = .ok (.iload_n 1, 1) := eX3_has_0.2.2.1
theorem dX3_has_5 : decode cX3_has 5 = .ok (.aload_n 0, 1) := eX3_has_0.2.2.2.1
theorem dX3_has_6 : decode cX3_has 6 = .ok (.getfield 27, 3) := eX3_has_0.2.2.2.2.1
theorem dX3_has_9 : decode cX3_has 9 = .ok (.if_icmp .ge 7, 3) := eX3_has_0.2.2.2.2.2.1
theorem dX3_has_12 : decode cX3_has 12 = .ok (.iconst 1, 1) := eX3_has_0.2.2.2.2.2.2.1
theorem dX3_has_13 : decode cX3_has 13 = .ok (.goto 4, 3) := eX3_has_0.2.2.2.2.2.2.2
theorem eX3_has_8 : (decode cX3_has 16 = .ok (.iconst 0, 1)) ∧ (decode cX3_has 17 = .ok (.ireturn, 1)) := by decide +kernel
theorem dX3_has_16 : decode cX3_has 16 = .ok (.iconst 0, 1) := eX3_has_8.1
theorem dX3_has_17 : decode cX3_has 17 = .ok (.ireturn, 1) := eX3_has_8.2
theorem eX3_add_0 : (decode cX3_add 0 = .ok (.aload_n 0, 1)) ∧ (decode cX3_add 1 = .ok (.getfield 27, 3)) ∧ (decode cX3_add 4 = .ok (.iconst 4, 1)) ∧ (decode cX3_add 5 = .ok (.if_icmp .lt 6, 3)) ∧ (decode cX3_add 8 = .ok (.bipush (-5), 2)) ∧ (decode cX3_add 10 = .ok (.ireturn, 1)) ∧ (decode cX3_add 11 = .ok (.aload_n 0, 1)) ∧ (decode cX3_add 12 = .ok (.getfield 9, 3)) := by decide +kernel
theorem dX3_add_0 : decode cX3_add 0 = .ok (.aload_n 0, 1) := eX3_add_0.1
theorem dX3_add_1 : decode cX3_add 1 = .ok (.getfield 27, 3) := eX3_add_0.2.1
theorem dX3_add_4 : decode cX3_add 4 = .ok (.iconst 4, 1) := eX3_add_0.2.2.1
theorem dX3_add_5 : decode cX3_add 5 = .ok (.if_icmp .lt 6, 3) := eX3_add_0.2.2.2.1
theorem dX3_add_8 : decode cX3_add 8 = .ok (.bipush (-5), 2) := eX3_add_0.2.2.2.2.1
theorem dX3_add_10 : decode cX3_add 10 = .ok (.ireturn, 1) := eX3_add_0.2.2.2.2.2.1
theorem dX3_add_11 : decode cX3_add 11 = .ok (.aload_n 0, 1) := eX3_add_0.2.2.2.2.2.2.1
theorem dX3_add_12 : decode cX3_add 12 = .ok (.getfield 9, 3) := eX3_add_0.2.2.2.2.2.2.2
theorem eX3_add_8 : (decode cX3_add 15 = .ok (.aload_n 0, 1)) ∧ (decode cX3_add 16 = .ok (.getfield 27, 3)) ∧ (decode cX3_add 19 = .ok (.iload_n 1, 1)) ∧ (decode cX3_add 20 = .ok (.iastore, 1)) ∧ (decode cX3_add 21 = .ok (.aload_n 0, 1)) ∧ (decode cX3_add 22 = .ok (.getfield 15, 3)) ∧ (decode cX3_add 25 = .ok (.aload_n 0, 1)) ∧ (decode cX3_add 26 = .ok (.getfield 27, 3)) := by decide +kernel
theorem dX3_add_15 : decode cX3_add 15 = .ok (.aload_n 0, 1) := eX3_add_8.1
theorem dX3_add_16 : decode cX3_add 16 = .ok (.getfield 27, 3) := eX3_add_8.2.1
theorem dX3_add_19 : decode cX3_add 19 = .ok (.iload_n 1, 1) := eX3_add_8.2.2.1
theorem dX3_add_20 : decode cX3_add 20 = .ok (.iastore, 1) := eX3_add_8.2.2.2.1
theorem dX3_add_21 : decode cX3_add 21 = .ok (.aload_n 0, 1) := eX3_add_8.2.2.2.2.1
theorem dX3_add_22 : decode cX3_add 22 = .ok (.getfield 15, 3) := eX3_add_8.2.2.2.2.2.1
theorem dX3_add_25 : decode cX3_add 25 = .ok (.aload_n 0, 1) := eX3_add_8.2.2.2.2.2.2.1
theorem dX3_add_26 : decode cX3_add 26 = .ok (.getfield 27, 3) := eX3_add_8.2.2.2.2.2.2.2
theorem eX3_add_16 : (decode cX3_add 29 = .ok (.iload_n 2, 1)) ∧ (decode cX3_add 30 = .ok (.iastore, 1)) ∧ (decode cX3_add 31 = .ok (.aload_n 0, 1)) ∧ (decode cX3_add 32 = .ok (.getfield 18, 3)) ∧ (decode cX3_add 35 = .ok (.aload_n 0, 1)) ∧ (decode cX3_add 36 = .ok (.getfield 27, 3)) ∧ (decode cX3_add 39 = .ok (.iload_n 3, 1)) ∧ (decode cX3_add 40 = .ok (.iastore, 1)) := by decide +kernel
theorem dX3_add_29 : decode cX3_add 29 = .ok (.iload_n 2, 1) := eX3_add_16.1
theorem dX3_add_30 : decode cX3_add 30 = .ok (.iastore, 1) := eX3_add_16.2.1
theorem dX3_add_31 : decode cX3_add 31 = .ok (.aload_n 0, 1) := eX3_add_16.2.2.1
theorem dX3_add_32 : decode cX3_add 32 = .ok (.getfield 18, 3) := eX3_add_16.2.2.2.1
theorem dX3_add_35 : decode cX3_add 35 = .ok (.aload_n 0, 1) := eX3_add_16.2.2.2.2.1
theorem dX3_add_36 : decode cX3_add 36 = .ok (.getfield 27, 3) := eX3_add_16.2.2.2.2.2.1
theorem dX3_add_39 : decode cX3_add 39 = .ok (.iload_n 3, 1) := eX3_add_16.2.2.2.2.2.2.1
theorem dX3_add_40 : decode cX3_add 40 = .ok (.iastore, 1) := eX3_add_16.2.2.2.2.2.2.2
theorem eX3_add_24 : (decode cX3_add 41 = .ok (.aload_n 0, 1)) ∧ (decode cX3_add 42 = .ok (.getfield 21, 3)) ∧ (decode cX3_add 45 = .ok (.aload_n 0, 1)) ∧ (decode cX3_add 46 = .ok (.getfield 27, 3)) ∧ (decode cX3_add 49 = .ok (.iload 4, 2)) ∧ (decode cX3_add 51 = .ok (.iastore, 1)) ∧ (decode cX3_add 52 = .ok (.aload_n 0, 1)) ∧ (decode cX3_add 53 = .ok (.dup, 1)) := by decide +kernel
theorem dX3_add_41 : decode cX3_add 41 = .ok (.aload_n 0, 1) := eX3_add_24.1
theorem dX3_add_42 : decode cX3_add 42 = .ok (.getfield 21, 3) := eX3_add_24.2.1
theorem dX3_add_45 : decode cX3_add 45 = .ok (.aload_n 0, 1) := eX3_add_24.2.2.1
theorem dX3_add_46 : decode cX3_add 46 = .ok (.getfield 27, 3) := eX3_add_24.2.2.2.1
theorem dX3_add_49 : decode cX3_add 49 = .ok (.iload 4, 2) := eX3_add_24.2.2.2.2.1
theorem dX3_add_51 : decode cX3_add 51 = .ok (.iastore, 1) := eX3_add_24.2.2.2.2.2.1
theorem dX3_add_52 : decode cX3_add 52 = .ok (.aload_n 0, 1) := eX3_add_24.2.2.2.2.2.2.1
theorem dX3_add_53 : decode cX3_add 53 = .ok (.dup, 1) := eX3_add_24.2.2.2.2.2.2.2
theorem eX3_add_32 : (decode cX3_add 54 = .ok (.getfield 27, 3)) ∧ (decode cX3_add 57 = .ok (.iconst 1, 1)) ∧ (decode cX3_add 58 = .ok (.iadd, 1)) ∧ (decode cX3_add 59 = .ok (.putfield 27, 3)) ∧ (decode cX3_add 62 = .ok (.aload_n 0, 1)) ∧ (decode cX3_add 63 = .ok (.getfield 27, 3)) ∧ (decode cX3_add 66 = .ok (.iconst 1, 1)) ∧ (decode cX3_add 67 = .ok (.isub, 1)) := by decide +kernel
theorem dX3_add_54 : decode cX3_add 54 = .ok (.getfield 27, 3) := eX3_add_32.1
theorem dX3_add_57 : decode cX3_add 57 = .ok (.iconst 1, 1) := eX3_add_32.2.1
theorem dX3_add_58 : decode cX3_add 58 = .ok (.iadd, 1) := eX3_add_32.2.2.1
theorem dX3_add_59 : decode cX3_add 59 = .ok (.putfield 27, 3) := eX3_add_32.2.2.2.1
theorem dX3_add_62 : decode cX3_add 62 = .ok (.aload_n 0, 1) := eX3_add_32.2.2.2.2.1
theorem dX3_add_63 : decode cX3_add 63 = .ok (.getfield 27, 3) := eX3_add_32.2.2.2.2.2.1
theorem dX3_add_66 : decode cX3_add 66 = .ok (.iconst 1, 1) := eX3_add_32.2.2.2.2.2.2.1
theorem dX3_add_67 : decode cX3_add 67 = .ok (.isub, 1) := eX3_add_32.2.2.2.2.2.2.2
theorem dX3_add_68 : decode cX3_add 68 = .ok (.ireturn, 1) := by decide +kernel
theorem eX3_setWay_0 : (decode cX3_setWay 0 = .ok (.aload_n 0, 1)) ∧ (decode cX3_setWay 1 = .ok (.getfield 24, 3)) ∧ (decode cX3_setWay 4 = .ok (.iload_n 1, 1)) ∧ (decode cX3_setWay 5 = .ok (.iconst 5, 1)) ∧ (decode cX3_setWay 6 = .ok (.imul, 1)) ∧ (decode cX3_setWay 7 = .ok (.iload_n 2, 1)) ∧ (decode cX3_setWay 8 = .ok (.iadd, 1)) ∧ (decode cX3_setWay 9 = .ok (.iload_n 3, 1)) := by decide +kernel
theorem dX3_setWay_0 : decode cX3_setWay 0 = .ok (.aload_n 0, 1) := eX3_setWay_0.1
theorem dX3_setWay_1 : decode cX3_setWay 1 = .ok (.getfield 24, 3) := eX3_setWay_0.2.1
theorem dX3_setWay_4 : decode cX3_setWay 4 = .ok (.iload_n 1, 1) := eX3_setWay_0.2.2.1
theorem dX3_setWay_5 : decode cX3_setWay 5 = .ok (.iconst 5, 1) := eX3_setWay_0.2.2.2.1
theorem dX3_setWay_6 : decode cX3_setWay 6 = .ok (.imul, 1) := eX3_setWay_0.2.2.2.2.1
theorem dX3_setWay_7 : decode cX3_setWay 7 = .ok (.iload_n 2, 1) := eX3_setWay_0.2.2.2.2.2.1
theorem dX3_setWay_8 : decode cX3_setWay 8 = .ok (.iadd, 1) := eX3_setWay_0.2.2.2.2.2.2.1
theorem dX3_setWay_9 : decode cX3_setWay 9 = .ok (.iload_n 3, 1) := eX3_setWay_0.2.2.2.2.2.2.2
theorem eX3_setWay_8 : (decode cX3_setWay 10 = .ok (.iastore, 1)) ∧ (decode cX3_setWay 11 = .ok (.aload_n 0, 1)) ∧ (decode cX3_setWay 12 = .ok (.getfield 24, 3)) ∧ (decode cX3_setWay 15 = .ok (.iload_n 2, 1)) ∧ (decode cX3_setWay 16 = .ok (.iconst 5, 1)) ∧ (decode cX3_setWay 17 = .ok (.imul, 1)) ∧ (decode cX3_setWay 18 = .ok (.iload_n 1, 1)) ∧ (decode cX3_setWay 19 = .ok (.iadd, 1)) := by decide +kernel
theorem dX3_setWay_10 : decode cX3_setWay 10 = .ok (.iastore, 1) := eX3_setWay_8.1
theorem dX3_setWay_11 : decode cX3_setWay 11 = .ok (.aload_n 0, 1) := eX3_setWay_8.2.1
theorem dX3_setWay_12 : decode cX3_setWay 12 = .ok (.getfield 24, 3) := eX3_setWay_8.2.2.1
theorem dX3_setWay_15 : decode cX3_setWay 15 = .ok (.iload_n 2, 1) := eX3_setWay_8.2.2.2.1
theorem dX3_setWay_16 : decode cX3_setWay 16 = .ok (.iconst 5, 1) := eX3_setWay_8.2.2.2.2.1
theorem dX3_setWay_17 : decode cX3_setWay 17 = .ok (.imul, 1) := eX3_setWay_8.2.2.2.2.2.1
theorem dX3_setWay_18 : decode cX3_setWay 18 = .ok (.iload_n 1, 1) := eX3_setWay_8.2.2.2.2.2.2.1
theorem dX3_setWay_19 : decode cX3_setWay 19 = .ok (.iadd, 1) := eX3_setWay_8.2.2.2.2.2.2.2
theorem eX3_setWay_16 : (decode cX3_setWay 20 = .ok (.iload_n 3, 1)) ∧ (decode cX3_setWay 21 = .ok (.iastore, 1)) ∧ (decode cX3_setWay 22 = .ok (.return_, 1)) := by decide +kernel
theorem dX3_setWay_20 : decode cX3_setWay 20 = .ok (.iload_n 3, 1) := eX3_setWay_16.1
theorem dX3_setWay_21 : decode cX3_setWay 21 = .ok (.iastore, 1) := eX3_setWay_16.2.1
theorem dX3_setWay_22 : decode cX3_setWay 22 = .ok (.return_, 1) := eX3_setWay_16.2.2
theorem eX3_wayBetween_0 : (decode cX3_wayBetween 0 = .ok (.aload_n 0, 1)) ∧ (decode cX3_wayBetween 1 = .ok (.getfield 24, 3)) ∧ (decode cX3_wayBetween 4 = .ok (.aload_n 0, 1)) ∧ (decode cX3_wayBetween 5 = .ok (.getfield 9, 3)) ∧ (decode cX3_wayBetween 8 = .ok (.iload_n 1, 1)) ∧ (decode cX3_wayBetween 9 = .ok (.iaload, 1)) ∧ (decode cX3_wayBetween 10 = .ok (.iconst 5, 1)) ∧ (decode cX3_wayBetween 11 = .ok (.imul, 1)) := by decide +kernel
theorem dX3_wayBetween_0 : decode cX3_wayBetween 0 = .ok (.aload_n 0, 1) := eX3_wayBetween_0.1
theorem dX3_wayBetween_1 : decode cX3_wayBetween 1 = .ok (.getfield 24, 3) := eX3_wayBetween_0.2.1
theorem dX3_wayBetween_4 : decode cX3_wayBetween 4 = .ok (.aload_n 0, 1) := eX3_wayBetween_0.2.2.1
theorem dX3_wayBetween_5 : decode cX3_wayBetween 5 = .ok (.getfield 9, 3) := eX3_wayBetween_0.2.2.2.1
theorem dX3_wayBetween_8 : decode cX3_wayBetween 8 = .ok (.iload_n 1, 1) := eX3_wayBetween_0.2.2.2.2.1
theorem dX3_wayBetween_9 : decode cX3_wayBetween 9 = .ok (.iaload, 1) := eX3_wayBetween_0.2.2.2.2.2.1
theorem dX3_wayBetween_10 : decode cX3_wayBetween 10 = .ok (.iconst 5, 1) := eX3_wayBetween_0.2.2.2.2.2.2.1
theorem dX3_wayBetween_11 : decode cX3_wayBetween 11 = .ok (.imul, 1) := eX3_wayBetween_0.2.2.2.2.2.2.2
theorem eX3_wayBetween_8 : (decode cX3_wayBetween 12 = .ok (.aload_n 0, 1)) ∧ (decode cX3_wayBetween 13 = .ok (.getfield 9, 3)) ∧ (decode cX3_wayBetween 16 = .ok (.iload_n 2, 1)) ∧ (decode cX3_wayBetween 17 = .ok (.iaload, 1)) ∧ (decode cX3_wayBetween 18 = .ok (.iadd, 1)) ∧ (decode cX3_wayBetween 19 = .ok (.iaload, 1)) ∧ (decode cX3_wayBetween 20 = .ok (.ireturn, 1)) := by decide +kernel
theorem dX3_wayBetween_12 : decode cX3_wayBetween 12 = .ok (.aload_n 0, 1) := eX3_wayBetween_8.1
theorem dX3_wayBetween_13 : decode cX3_wayBetween 13 = .ok (.getfield 9, 3) := eX3_wayBetween_8.2.1
theorem dX3_wayBetween_16 : decode cX3_wayBetween 16 = .ok (.iload_n 2, 1) := eX3_wayBetween_8.2.2.1
theorem dX3_wayBetween_17 : decode cX3_wayBetween 17 = .ok (.iaload, 1) := eX3_wayBetween_8.2.2.2.1
theorem dX3_wayBetween_18 : decode cX3_wayBetween 18 = .ok (.iadd, 1) := eX3_wayBetween_8.2.2.2.2.1
theorem dX3_wayBetween_19 : decode cX3_wayBetween 19 = .ok (.iaload, 1) := eX3_wayBetween_8.2.2.2.2.2.1
theorem dX3_wayBetween_20 : decode cX3_wayBetween 20 = .ok (.ireturn, 1) := eX3_wayBetween_8.2.2.2.2.2.2
theorem eX3_inOneTown_0 : (decode cX3_inOneTown 0 = .ok (.aload_n 0, 1)) ∧ (decode cX3_inOneTown 1 = .ok (.getfield 9, 3)) ∧ (decode cX3_inOneTown 4 = .ok (.iload_n 1, 1)) ∧ (decode cX3_inOneTown 5 = .ok (.iaload, 1)) ∧ (decode cX3_inOneTown 6 = .ok (.aload_n 0, 1)) ∧ (decode cX3_inOneTown 7 = .ok (.getfield 9, 3)) ∧ (decode cX3_inOneTown 10 = .ok (.iload_n 2, 1)) ∧ (decode cX3_inOneTown 11 = .ok (.iaload, 1)) := by decide +kernel
theorem dX3_inOneTown_0 : decode cX3_inOneTown 0 = .ok (.aload_n 0, 1) := eX3_inOneTown_0.1
theorem dX3_inOneTown_1 : decode cX3_inOneTown 1 = .ok (.getfield 9, 3) := eX3_inOneTown_0.2.1
theorem dX3_inOneTown_4 : decode cX3_inOneTown 4 = .ok (.iload_n 1, 1) := eX3_inOneTown_0.2.2.1
theorem dX3_inOneTown_5 : decode cX3_inOneTown 5 = .ok (.iaload, 1) := eX3_inOneTown_0.2.2.2.1
theorem dX3_inOneTown_6 : decode cX3_inOneTown 6 = .ok (.aload_n 0, 1) := eX3_inOneTown_0.2.2.2.2.1
theorem dX3_inOneTown_7 : decode cX3_inOneTown 7 = .ok (.getfield 9, 3) := eX3_inOneTown_0.2.2.2.2.2.1
theorem dX3_inOneTown_10 : decode cX3_inOneTown 10 = .ok (.iload_n 2, 1) := eX3_inOneTown_0.2.2.2.2.2.2.1
theorem dX3_inOneTown_11 : decode cX3_inOneTown 11 = .ok (.iaload, 1) := eX3_inOneTown_0.2.2.2.2.2.2.2
theorem eX3_inOneTown_8 : (decode cX3_inOneTown 12 = .ok (.if_icmp .ne 7, 3)) ∧ (decode cX3_inOneTown 15 = .ok (.iconst 1, 1)) ∧ (decode cX3_inOneTown 16 = .ok (.goto 4, 3)) ∧ (decode cX3_inOneTown 19 = .ok (.iconst 0, 1)) ∧ (decode cX3_inOneTown 20 = .ok (.ireturn, 1)) := by decide +kernel
theorem dX3_inOneTown_12 : decode cX3_inOneTown 12 = .ok (.if_icmp .ne 7, 3) := eX3_inOneTown_8.1
theorem dX3_inOneTown_15 : decode cX3_inOneTown 15 = .ok (.iconst 1, 1) := eX3_inOneTown_8.2.1
theorem dX3_inOneTown_16 : decode cX3_inOneTown 16 = .ok (.goto 4, 3) := eX3_inOneTown_8.2.2.1
theorem dX3_inOneTown_19 : decode cX3_inOneTown 19 = .ok (.iconst 0, 1) := eX3_inOneTown_8.2.2.2.1
theorem dX3_inOneTown_20 : decode cX3_inOneTown 20 = .ok (.ireturn, 1) := eX3_inOneTown_8.2.2.2.2
theorem eX4_init_0 : (decode cX4_init 0 = .ok (.aload_n 0, 1)) ∧ (decode cX4_init 1 = .ok (.invokespecial 3, 3)) ∧ (decode cX4_init 4 = .ok (.aload_n 0, 1)) ∧ (decode cX4_init 5 = .ok (.bipush 10, 2)) ∧ (decode cX4_init 7 = .ok (.newarray .int, 2)) ∧ (decode cX4_init 9 = .ok (.putfield 9, 3)) ∧ (decode cX4_init 12 = .ok (.aload_n 0, 1)) ∧ (decode cX4_init 13 = .ok (.bipush 10, 2)) := by decide +kernel
theorem dX4_init_0 : decode cX4_init 0 = .ok (.aload_n 0, 1) := eX4_init_0.1
theorem dX4_init_1 : decode cX4_init 1 = .ok (.invokespecial 3, 3) := eX4_init_0.2.1
theorem dX4_init_4 : decode cX4_init 4 = .ok (.aload_n 0, 1) := eX4_init_0.2.2.1
theorem dX4_init_5 : decode cX4_init 5 = .ok (.bipush 10, 2) := eX4_init_0.2.2.2.1
theorem dX4_init_7 : decode cX4_init 7 = .ok (.newarray .int, 2) := eX4_init_0.2.2.2.2.1
theorem dX4_init_9 : decode cX4_init 9 = .ok (.putfield 9, 3) := eX4_init_0.2.2.2.2.2.1
theorem dX4_init_12 : decode cX4_init 12 = .ok (.aload_n 0, 1) := eX4_init_0.2.2.2.2.2.2.1
theorem dX4_init_13 : decode cX4_init 13 = .ok (.bipush 10, 2) := eX4_init_0.2.2.2.2.2.2.2
theorem eX4_init_8 : (decode cX4_init 15 = .ok (.newarray .int, 2)) ∧ (decode cX4_init 17 = .ok (.putfield 15, 3)) ∧ (decode cX4_init 20 = .ok (.aload_n 0, 1)) ∧ (decode cX4_init 21 = .ok (.bipush 50, 2)) ∧ (decode cX4_init 23 = .ok (.newarray .int, 2)) ∧ (decode cX4_init 25 = .ok (.putfield 18, 3)) ∧ (decode cX4_init 28 = .ok (.aload_n 0, 1)) ∧ (decode cX4_init 29 = .ok (.bipush 100, 2)) := by decide +kernel
theorem dX4_init_15 : decode cX4_init 15 = .ok (.newarray .int, 2) := eX4_init_8.1
theorem dX4_init_17 : decode cX4_init 17 = .ok (.putfield 15, 3) := eX4_init_8.2.1
theorem dX4_init_20 : decode cX4_init 20 = .ok (.aload_n 0, 1) := eX4_init_8.2.2.1
theorem dX4_init_21 : decode cX4_init 21 = .ok (.bipush 50, 2) := eX4_init_8.2.2.2.1
theorem dX4_init_23 : decode cX4_init 23 = .ok (.newarray .int, 2) := eX4_init_8.2.2.2.2.1
theorem dX4_init_25 : decode cX4_init 25 = .ok (.putfield 18, 3) := eX4_init_8.2.2.2.2.2.1
theorem dX4_init_28 : decode cX4_init 28 = .ok (.aload_n 0, 1) := eX4_init_8.2.2.2.2.2.2.1
theorem dX4_init_29 : decode cX4_init 29 = .ok (.bipush 100, 2) := eX4_init_8.2.2.2.2.2.2.2
theorem eX4_init_16 : (decode cX4_init 31 = .ok (.newarray .int, 2)) ∧ (decode cX4_init 33 = .ok (.putfield 21, 3)) ∧ (decode cX4_init 36 = .ok (.aload_n 0, 1)) ∧ (decode cX4_init 37 = .ok (.bipush 100, 2)) ∧ (decode cX4_init 39 = .ok (.newarray .int, 2)) ∧ (decode cX4_init 41 = .ok (.putfield 24, 3)) ∧ (decode cX4_init 44 = .ok (.aload_n 0, 1)) ∧ (decode cX4_init 45 = .ok (.bipush 100, 2)) := by decide +kernel
theorem dX4_init_31 : decode cX4_init 31 = .ok (.newarray .int, 2) := eX4_init_16.1
theorem dX4_init_33 : decode cX4_init 33 = .ok (.putfield 21, 3) := eX4_init_16.2.1
theorem dX4_init_36 : decode cX4_init 36 = .ok (.aload_n 0, 1) := eX4_init_16.2.2.1
theorem dX4_init_37 : decode cX4_init 37 = .ok (.bipush 100, 2) := eX4_init_16.2.2.2.1
theorem dX4_init_39 : decode cX4_init 39 = .ok (.newarray .int, 2) := eX4_init_16.2.2.2.2.1
theorem dX4_init_41 : decode cX4_init 41 = .ok (.putfield 24, 3) := eX4_init_16.2.2.2.2.2.1
theorem dX4_init_44 : decode cX4_init 44 = .ok (.aload_n 0, 1) := eX4_init_16.2.2.2.2.2.2.1
theorem dX4_init_45 : decode cX4_init 45 = .ok (.bipush 100, 2) := eX4_init_16.2.2.2.2.2.2.2
theorem eX4_init_24 : (decode cX4_init 47 = .ok (.newarray .int, 2)) ∧ (decode cX4_init 49 = .ok (.putfield 27, 3)) ∧ (decode cX4_init 52 = .ok (.aload_n 0, 1)) ∧ (decode cX4_init 53 = .ok (.bipush 100, 2)) ∧ (decode cX4_init 55 = .ok (.newarray .int, 2)) ∧ (decode cX4_init 57 = .ok (.putfield 30, 3)) ∧ (decode cX4_init 60 = .ok (.aload_n 0, 1)) ∧ (decode cX4_init 61 = .ok (.iconst 0, 1)) := by decide +kernel
theorem dX4_init_47 : decode cX4_init 47 = .ok (.newarray .int, 2) := eX4_init_24.1
theorem dX4_init_49 : decode cX4_init 49 = .ok (.putfield 27, 3) := eX4_init_24.2.1
theorem dX4_init_52 : decode cX4_init 52 = .ok (.aload_n 0, 1) := eX4_init_24.2.2.1
theorem dX4_init_53 : decode cX4_init 53 = .ok (.bipush 100, 2) := eX4_init_24.2.2.2.1
theorem dX4_init_55 : decode cX4_init 55 = .ok (.newarray .int, 2) := eX4_init_24.2.2.2.2.1
theorem dX4_init_57 : decode cX4_init 57 = .ok (.putfield 30, 3) := eX4_init_24.2.2.2.2.2.1
theorem dX4_init_60 : decode cX4_init 60 = .ok (.aload_n 0, 1) := eX4_init_24.2.2.2.2.2.2.1
theorem dX4_init_61 : decode cX4_init 61 = .ok (.iconst 0, 1) := eX4_init_24.2.2.2.2.2.2.2
theorem eX4_init_32 : (decode cX4_init 62 = .ok (.putfield 33, 3)) ∧ (decode cX4_init 65 = .ok (.aload_n 0, 1)) ∧ (decode cX4_init 66 = .ok (.iconst 0, 1)) ∧ (decode cX4_init 67 = .ok (.putfield 37, 3)) ∧ (decode cX4_init 70 = .ok (.return_, 1)) := by decide +kernel
theorem dX4_init_62 : decode cX4_init 62 = .ok (.putfield 33, 3) := eX4_init_32.1
theorem dX4_init_65 : decode cX4_init 65 = .ok (.aload_n 0, 1) := eX4_init_32.2.1
theorem dX4_init_66 : decode cX4_init 66 = .ok (.iconst 0, 1) := eX4_init_32.2.2.1
theorem dX4_init_67 : decode cX4_init 67 = .ok (.putfield 37, 3) := eX4_init_32.2.2.2.1
theorem dX4_init_70 : decode cX4_init 70 = .ok (.return_, 1) := eX4_init_32.2.2.2.2
theorem eX4_has_0 : (decode cX4_has 0 = .ok (.iload_n 1, 1)) ∧ (decode cX4_has 1 = .ok (.ifCond .lt 15, 3)) ∧ (decode cX4_has 4 = .ok (.iload_n 1, 1)) ∧ (decode cX4_has 5 = .ok (.aload_n 0, 1)) ∧ (decode cX4_has 6 = .ok (.getfield 33, 3)) ∧ (decode cX4_has 9 = .ok (.if_icmp .ge 7, 3)) ∧ (decode cX4_has 12 = .ok (.iconst 1, 1)) ∧ (decode cX4_has 13 = .ok (.goto 4, 3)) := by decide +kernel
theorem dX4_has_0 : decode cX4_has 0 = .ok (.iload_n 1, 1) := eX4_has_0.1
theorem dX4_has_1 : decode cX4_has 1 = .ok (.ifCond .lt 15, 3) := eX4_has_0.2.1
theorem dX4_has_4 : decode cX4_has 4 = .ok (.iload_n 1, 1) := eX4_has_0.2.2.1
theorem dX4_has_5 : decode cX4_has 5 = .ok (.aload_n 0, 1) := eX4_has_0.2.2.2.1
theorem dX4_has_6 : decode cX4_has 6 = .ok (.getfield 33, 3) := eX4_has_0.2.2.2.2.1
theorem dX4_has_9 : decode cX4_has 9 = .ok (.if_icmp .ge 7, 3) := eX4_has_0.2.2.2.2.2.1
theorem dX4_has_12 : decode cX4_has 12 = .ok (.iconst 1, 1) := eX4_has_0.2.2.2.2.2.2.1
theorem dX4_has_13 : decode cX4_has 13 = .ok (.goto 4, 3) := eX4_has_0.2.2.2.2.2.2.2
theorem eX4_has_8 : (decode cX4_has 16 = .ok (.iconst 0, 1)) ∧ (decode cX4_has 17 = .ok (.ireturn, 1)) := by decide +kernel
theorem dX4_has_16 : decode cX4_has 16 = .ok (.iconst 0, 1) := eX4_has_8.1
theorem dX4_has_17 : decode cX4_has 17 = .ok (.ireturn, 1) := eX4_has_8.2
theorem eX4_add_0 : (decode cX4_add 0 = .ok (.aload_n 0, 1)) ∧ (decode cX4_add 1 = .ok (.getfield 33, 3)) ∧ (decode cX4_add 4 = .ok (.bipush 10, 2)) ∧ (decode cX4_add 6 = .ok (.if_icmp .lt 6, 3)) ∧ (decode cX4_add 9 = .ok (.bipush (-5), 2)) ∧ (decode cX4_add 11 = .ok (.ireturn, 1)) ∧ (decode cX4_add 12 = .ok (.aload_n 0, 1)) ∧ (decode cX4_add 13 = .ok (.getfield 9, 3)) := by decide +kernel
theorem dX4_add_0 : decode cX4_add 0 = .ok (.aload_n 0, 1) := eX4_add_0.1
theorem dX4_add_1 : decode cX4_add 1 = .ok (.getfield 33, 3) := eX4_add_0.2.1
theorem dX4_add_4 : decode cX4_add 4 = .ok (.bipush 10, 2) := eX4_add_0.2.2.1
theorem dX4_add_6 : decode cX4_add 6 = .ok (.if_icmp .lt 6, 3) := eX4_add_0.2.2.2.1
theorem dX4_add_9 : decode cX4_add 9 = .ok (.bipush (-5), 2) := eX4_add_0.2.2.2.2.1
theorem dX4_add_11 : decode cX4_add 11 = .ok (.ireturn, 1) := eX4_add_0.2.2.2.2.2.1
theorem dX4_add_12 : decode cX4_add 12 = .ok (.aload_n 0, 1) := eX4_add_0.2.2.2.2.2.2.1
theorem dX4_add_13 : decode cX4_add 13 = .ok (.getfield 9, 3) := eX4_add_0.2.2.2.2.2.2.2
theorem eX4_add_8 : (decode cX4_add 16 = .ok (.aload_n 0, 1)) ∧ (decode cX4_add 17 = .ok (.getfield 33, 3)) ∧ (decode cX4_add 20 = .ok (.iload_n 1, 1)) ∧ (decode cX4_add 21 = .ok (.iastore, 1)) ∧ (decode cX4_add 22 = .ok (.aload_n 0, 1)) ∧ (decode cX4_add 23 = .ok (.dup, 1)) ∧ (decode cX4_add 24 = .ok (.getfield 33, 3)) ∧ (decode cX4_add 27 = .ok (.iconst 1, 1)) := by decide +kernel
theorem dX4_add_16 : decode cX4_add 16 = .ok (.aload_n 0, 1) := eX4_add_8.1
theorem dX4_add_17 : decode cX4_add 17 = .ok (.getfield 33, 3) := eX4_add_8.2.1
theorem dX4_add_20 : decode cX4_add 20 = .ok (.iload_n 1, 1) := eX4_add_8.2.2.1
theorem dX4_add_21 : decode cX4_add 21 = .ok (.iastore, 1) := eX4_add_8.2.2.2.1
theorem dX4_add_22 : decode cX4_add 22 = .ok (.aload_n 0, 1) := eX4_add_8.2.2.2.2.1
theorem dX4_add_23 : decode cX4_add 23 = .ok (.dup, 1) := eX4_add_8.2.2.2.2.2.1
theorem dX4_add_24 : decode cX4_add 24 = .ok (.getfield 33, 3) := eX4_add_8.2.2.2.2.2.2.1
theorem dX4_add_27 : decode cX4_add 27 = .ok (.iconst 1, 1) := eX4_add_8.2.2.2.2.2.2.2
theorem eX4_add_16 : (decode cX4_add 28 = .ok (.iadd, 1)) ∧ (decode cX4_add 29 = .ok (.putfield 33, 3)) ∧ (decode cX4_add 32 = .ok (.aload_n 0, 1)) ∧ (decode cX4_add 33 = .ok (.getfield 33, 3)) ∧ (decode cX4_add 36 = .ok (.iconst 1, 1)) ∧ (decode cX4_add 37 = .ok (.isub, 1)) ∧ (decode cX4_add 38 = .ok (.ireturn, 1)) := by decide +kernel
theorem dX4_add_28 : decode cX4_add 28 = .ok (.iadd, 1) := eX4_add_16.1
theorem dX4_add_29 : decode cX4_add 29 = .ok (.putfield 33, 3) := eX4_add_16.2.1
theorem dX4_add_32 : decode cX4_add 32 = .ok (.aload_n 0, 1) := eX4_add_16.2.2.1
theorem dX4_add_33 : decode cX4_add 33 = .ok (.getfield 33, 3) := eX4_add_16.2.2.2.1
theorem dX4_add_36 : decode cX4_add 36 = .ok (.iconst 1, 1) := eX4_add_16.2.2.2.2.1
theorem dX4_add_37 : decode cX4_add 37 = .ok (.isub, 1) := eX4_add_16.2.2.2.2.2.1
theorem dX4_add_38 : decode cX4_add 38 = .ok (.ireturn, 1) := eX4_add_16.2.2.2.2.2.2
theorem eX4_addVote_0 : (decode cX4_addVote 0 = .ok (.aload_n 0, 1)) ∧ (decode cX4_addVote 1 = .ok (.iload_n 1, 1)) ∧ (decode cX4_addVote 2 = .ok (.iload_n 2, 1)) ∧ (decode cX4_addVote 3 = .ok (.invokevirtual 40, 3)) ∧ (decode cX4_addVote 6 = .ok (.ifCond .eq 6, 3)) ∧ (decode cX4_addVote 9 = .ok (.bipush (-4), 2)) ∧ (decode cX4_addVote 11 = .ok (.ireturn, 1)) ∧ (decode cX4_addVote 12 = .ok (.aload_n 0, 1)) := by decide +kernel
theorem dX4_addVote_0 : decode cX4_addVote 0 = .ok (.aload_n 0, 1) := eX4_addVote_0.1
theorem dX4_addVote_1 : decode cX4_addVote 1 = .ok (.iload_n 1, 1) := eX4_addVote_0.2.1
theorem dX4_addVote_2 : decode cX4_addVote 2 = .ok (.iload_n 2, 1) := eX4_addVote_0.2.2.1
theorem dX4_addVote_3 : decode cX4_addVote 3 = .ok (.invokevirtual 40, 3) := eX4_addVote_0.2.2.2.1
theorem dX4_addVote_6 : decode cX4_addVote 6 = .ok (.ifCond .eq 6, 3) := eX4_addVote_0.2.2.2.2.1
theorem dX4_addVote_9 : decode cX4_addVote 9 = .ok (.bipush (-4), 2) := eX4_addVote_0.2.2.2.2.2.1
theorem dX4_addVote_11 : decode cX4_addVote 11 = .ok (.ireturn, 1) := eX4_addVote_0.2.2.2.2.2.2.1
theorem dX4_addVote_12 : decode cX4_addVote 12 = .ok (.aload_n 0, 1) := eX4_addVote_0.2.2.2.2.2.2.2
theorem eX4_addVote_8 : (decode cX4_addVote 13 = .ok (.getfield 15, 3)) ∧ (decode cX4_addVote 16 = .ok (.iload_n 1, 1)) ∧ (decode cX4_addVote 17 = .ok (.iaload, 1)) ∧ (decode cX4_addVote 18 = .ok (.iconst 5, 1)) ∧ (decode cX4_addVote 19 = .ok (.if_icmp .lt 6, 3)) ∧ (decode cX4_addVote 22 = .ok (.bipush (-5), 2)) ∧ (decode cX4_addVote 24 = .ok (.ireturn, 1)) ∧ (decode cX4_addVote 25 = .ok (.aload_n 0, 1)) := by decide +kernel
theorem dX4_addVote_13 : decode cX4_addVote 13 = .ok (.getfield 15, 3) := eX4_addVote_8.1
theorem dX4_addVote_16 : decode cX4_addVote 16 = .ok (.iload_n 1, 1) := eX4_addVote_8.2.1
theorem dX4_addVote_17 : decode cX4_addVote 17 = .ok (.iaload, 1) := eX4_addVote_8.2.2.1
theorem dX4_addVote_18 : decode cX4_addVote 18 = .ok (.iconst 5, 1) := eX4_addVote_8.2.2.2.1
theorem dX4_addVote_19 : decode cX4_addVote 19 = .ok (.if_icmp .lt 6, 3) := eX4_addVote_8.2.2.2.2.1
theorem dX4_addVote_22 : decode cX4_addVote 22 = .ok (.bipush (-5), 2) := eX4_addVote_8.2.2.2.2.2.1
theorem dX4_addVote_24 : decode cX4_addVote 24 = .ok (.ireturn, 1) := eX4_addVote_8.2.2.2.2.2.2.1
theorem dX4_addVote_25 : decode cX4_addVote 25 = .ok (.aload_n 0, 1) := eX4_addVote_8.2.2.2.2.2.2.2
theorem eX4_addVote_16 : (decode cX4_addVote 26 = .ok (.getfield 18, 3)) ∧ (decode cX4_addVote 29 = .ok (.iload_n 1, 1)) ∧ (decode cX4_addVote 30 = .ok (.iconst 5, 1)) ∧ (decode cX4_addVote 31 = .ok (.imul, 1)) ∧ (decode cX4_addVote 32 = .ok (.aload_n 0, 1)) ∧ (decode cX4_addVote 33 = .ok (.getfield 15, 3)) ∧ (decode cX4_addVote 36 = .ok (.iload_n 1, 1)) ∧ (decode cX4_addVote 37 = .ok (.iaload, 1)) := by decide +kernel
theorem dX4_addVote_26 : decode cX4_addVote 26 = .ok (.getfield 18, 3) := eX4_addVote_16.1
theorem dX4_addVote_29 : decode cX4_addVote 29 = .ok (.iload_n 1, 1) := eX4_addVote_16.2.1
theorem dX4_addVote_30 : decode cX4_addVote 30 = .ok (.iconst 5, 1) := eX4_addVote_16.2.2.1
theorem dX4_addVote_31 : decode cX4_addVote 31 = .ok (.imul, 1) := eX4_addVote_16.2.2.2.1
theorem dX4_addVote_32 : decode cX4_addVote 32 = .ok (.aload_n 0, 1) := eX4_addVote_16.2.2.2.2.1
theorem dX4_addVote_33 : decode cX4_addVote 33 = .ok (.getfield 15, 3) := eX4_addVote_16.2.2.2.2.2.1
theorem dX4_addVote_36 : decode cX4_addVote 36 = .ok (.iload_n 1, 1) := eX4_addVote_16.2.2.2.2.2.2.1
theorem dX4_addVote_37 : decode cX4_addVote 37 = .ok (.iaload, 1) := eX4_addVote_16.2.2.2.2.2.2.2
theorem eX4_addVote_24 : (decode cX4_addVote 38 = .ok (.iadd, 1)) ∧ (decode cX4_addVote 39 = .ok (.iload_n 2, 1)) ∧ (decode cX4_addVote 40 = .ok (.iastore, 1)) ∧ (decode cX4_addVote 41 = .ok (.aload_n 0, 1)) ∧ (decode cX4_addVote 42 = .ok (.getfield 15, 3)) ∧ (decode cX4_addVote 45 = .ok (.iload_n 1, 1)) ∧ (decode cX4_addVote 46 = .ok (.dup2, 1)) ∧ (decode cX4_addVote 47 = .ok (.iaload, 1)) := by decide +kernel
theorem dX4_addVote_38 : decode cX4_addVote 38 = .ok (.iadd, 1) := eX4_addVote_24.1
theorem dX4_addVote_39 : decode cX4_addVote 39 = .ok (.iload_n 2, 1) := eX4_addVote_24.2.1
theorem dX4_addVote_40 : decode cX4_addVote 40 = .ok (.iastore, 1) := eX4_addVote_24.2.2.1
theorem dX4_addVote_41 : decode cX4_addVote 41 = .ok (.aload_n 0, 1) := eX4_addVote_24.2.2.2.1
theorem dX4_addVote_42 : decode cX4_addVote 42 = .ok (.getfield 15, 3) := eX4_addVote_24.2.2.2.2.1
theorem dX4_addVote_45 : decode cX4_addVote 45 = .ok (.iload_n 1, 1) := eX4_addVote_24.2.2.2.2.2.1
theorem dX4_addVote_46 : decode cX4_addVote 46 = .ok (.dup2, 1) := eX4_addVote_24.2.2.2.2.2.2.1
theorem dX4_addVote_47 : decode cX4_addVote 47 = .ok (.iaload, 1) := eX4_addVote_24.2.2.2.2.2.2.2
theorem eX4_addVote_32 : (decode cX4_addVote 48 = .ok (.iconst 1, 1)) ∧ (decode cX4_addVote 49 = .ok (.iadd, 1)) ∧ (decode cX4_addVote 50 = .ok (.iastore, 1)) ∧ (decode cX4_addVote 51 = .ok (.aload_n 0, 1)) ∧ (decode cX4_addVote 52 = .ok (.getfield 15, 3)) ∧ (decode cX4_addVote 55 = .ok (.iload_n 1, 1)) ∧ (decode cX4_addVote 56 = .ok (.iaload, 1)) ∧ (decode cX4_addVote 57 = .ok (.ireturn, 1)) := by decide +kernel
theorem dX4_addVote_48 : decode cX4_addVote 48 = .ok (.iconst 1, 1) := eX4_addVote_32.1
theorem dX4_addVote_49 : decode cX4_addVote 49 = .ok (.iadd, 1) := eX4_addVote_32.2.1
theorem dX4_addVote_50 : decode cX4_addVote 50 = .ok (.iastore, 1) := eX4_addVote_32.2.2.1
theorem dX4_addVote_51 : decode cX4_addVote 51 = .ok (.aload_n 0, 1) := eX4_addVote_32.2.2.2.1
theorem dX4_addVote_52 : decode cX4_addVote 52 = .ok (.getfield 15, 3) := eX4_addVote_32.2.2.2.2.1
theorem dX4_addVote_55 : decode cX4_addVote 55 = .ok (.iload_n 1, 1) := eX4_addVote_32.2.2.2.2.2.1
theorem dX4_addVote_56 : decode cX4_addVote 56 = .ok (.iaload, 1) := eX4_addVote_32.2.2.2.2.2.2.1
theorem dX4_addVote_57 : decode cX4_addVote 57 = .ok (.ireturn, 1) := eX4_addVote_32.2.2.2.2.2.2.2
theorem eX4_votesFor_0 : (decode cX4_votesFor 0 = .ok (.iconst 0, 1)) ∧ (decode cX4_votesFor 1 = .ok (.istore_n 3, 1)) ∧ (decode cX4_votesFor 2 = .ok (.iload_n 3, 1)) ∧ (decode cX4_votesFor 3 = .ok (.aload_n 0, 1)) ∧ (decode cX4_votesFor 4 = .ok (.getfield 15, 3)) ∧ (decode cX4_votesFor 7 = .ok (.iload_n 1, 1)) ∧ (decode cX4_votesFor 8 = .ok (.iaload, 1)) ∧ (decode cX4_votesFor 9 = .ok (.if_icmp .ge 25, 3)) := by decide +kernel
theorem dX4_votesFor_0 : decode cX4_votesFor 0 = .ok (.iconst 0, 1) := eX4_votesFor_0.1
theorem dX4_votesFor_1 : decode cX4_votesFor 1 = .ok (.istore_n 3, 1) := eX4_votesFor_0.2.1
theorem dX4_votesFor_2 : decode cX4_votesFor 2 = .ok (.iload_n 3, 1) := eX4_votesFor_0.2.2.1
theorem dX4_votesFor_3 : decode cX4_votesFor 3 = .ok (.aload_n 0, 1) := eX4_votesFor_0.2.2.2.1
theorem dX4_votesFor_4 : decode cX4_votesFor 4 = .ok (.getfield 15, 3) := eX4_votesFor_0.2.2.2.2.1
theorem dX4_votesFor_7 : decode cX4_votesFor 7 = .ok (.iload_n 1, 1) := eX4_votesFor_0.2.2.2.2.2.1
theorem dX4_votesFor_8 : decode cX4_votesFor 8 = .ok (.iaload, 1) := eX4_votesFor_0.2.2.2.2.2.2.1
theorem dX4_votesFor_9 : decode cX4_votesFor 9 = .ok (.if_icmp .ge 25, 3) := eX4_votesFor_0.2.2.2.2.2.2.2
theorem eX4_votesFor_8 : (decode cX4_votesFor 12 = .ok (.aload_n 0, 1)) ∧ (decode cX4_votesFor 13 = .ok (.getfield 18, 3)) ∧ (decode cX4_votesFor 16 = .ok (.iload_n 1, 1)) ∧ (decode cX4_votesFor 17 = .ok (.iconst 5, 1)) ∧ (decode cX4_votesFor 18 = .ok (.imul, 1)) ∧ (decode cX4_votesFor 19 = .ok (.iload_n 3, 1)) ∧ (decode cX4_votesFor 20 = .ok (.iadd, 1)) ∧ (decode cX4_votesFor 21 = .ok (.iaload, 1)) := by decide +kernel
theorem dX4_votesFor_12 : decode cX4_votesFor 12 = .ok (.aload_n 0, 1) := eX4_votesFor_8.1
theorem dX4_votesFor_13 : decode cX4_votesFor 13 = .ok (.getfield 18, 3) := eX4_votesFor_8.2.1
theorem dX4_votesFor_16 : decode cX4_votesFor 16 = .ok (.iload_n 1, 1) := eX4_votesFor_8.2.2.1
theorem dX4_votesFor_17 : decode cX4_votesFor 17 = .ok (.iconst 5, 1) := eX4_votesFor_8.2.2.2.1
theorem dX4_votesFor_18 : decode cX4_votesFor 18 = .ok (.imul, 1) := eX4_votesFor_8.2.2.2.2.1
theorem dX4_votesFor_19 : decode cX4_votesFor 19 = .ok (.iload_n 3, 1) := eX4_votesFor_8.2.2.2.2.2.1
theorem dX4_votesFor_20 : decode cX4_votesFor 20 = .ok (.iadd, 1) := eX4_votesFor_8.2.2.2.2.2.2.1
theorem dX4_votesFor_21 : decode cX4_votesFor 21 = .ok (.iaload, 1) := eX4_votesFor_8.2.2.2.2.2.2.2
theorem eX4_votesFor_16 : (decode cX4_votesFor 22 = .ok (.iload_n 2, 1)) ∧ (decode cX4_votesFor 23 = .ok (.if_icmp .ne 5, 3)) ∧ (decode cX4_votesFor 26 = .ok (.iconst 1, 1)) ∧ (decode cX4_votesFor 27 = .ok (.ireturn, 1)) ∧ (decode cX4_votesFor 28 = .ok (.iinc 3 1, 3)) ∧ (decode cX4_votesFor 31 = .ok (.goto (-29), 3)) ∧ (decode cX4_votesFor 34 = .ok (.iconst 0, 1)) ∧ (decode cX4_votesFor 35 = .ok (.ireturn, 1)) := by decide +kernel
theorem dX4_votesFor_22 : decode cX4_votesFor 22 = .ok (.iload_n 2, 1) := eX4_votesFor_16.1
theorem dX4_votesFor_23 : decode cX4_votesFor 23 = .ok (.if_icmp .ne 5, 3) := eX4_votesFor_16.2.1
theorem dX4_votesFor_26 : decode cX4_votesFor 26 = .ok (.iconst 1, 1) := eX4_votesFor_16.2.2.1
theorem dX4_votesFor_27 : decode cX4_votesFor 27 = .ok (.ireturn, 1) := eX4_votesFor_16.2.2.2.1
theorem dX4_votesFor_28 : decode cX4_votesFor 28 = .ok (.iinc 3 1, 3) := eX4_votesFor_16.2.2.2.2.1
theorem dX4_votesFor_31 : decode cX4_votesFor 31 = .ok (.goto (-29), 3) := eX4_votesFor_16.2.2.2.2.2.1
theorem dX4_votesFor_34 : decode cX4_votesFor 34 = .ok (.iconst 0, 1) := eX4_votesFor_16.2.2.2.2.2.2.1
theorem dX4_votesFor_35 : decode cX4_votesFor 35 = .ok (.ireturn, 1) := eX4_votesFor_16.2.2.2.2.2.2.2
theorem eX4_addRow_0 : (decode cX4_addRow 0 = .ok (.aload_n 0, 1)) ∧ (decode cX4_addRow 1 = .ok (.getfield 37, 3)) ∧ (decode cX4_addRow 4 = .ok (.bipush 100, 2)) ∧ (decode cX4_addRow 6 = .ok (.if_icmp .lt 6, 3)) ∧ (decode cX4_addRow 9 = .ok (.bipush (-5), 2)) ∧ (decode cX4_addRow 11 = .ok (.ireturn, 1)) ∧ (decode cX4_addRow 12 = .ok (.aload_n 0, 1)) ∧ (decode cX4_addRow 13 = .ok (.getfield 21, 3)) := by decide +kernel
theorem dX4_addRow_0 : decode cX4_addRow 0 = .ok (.aload_n 0, 1) := eX4_addRow_0.1
theorem dX4_addRow_1 : decode cX4_addRow 1 = .ok (.getfield 37, 3) := eX4_addRow_0.2.1
theorem dX4_addRow_4 : decode cX4_addRow 4 = .ok (.bipush 100, 2) := eX4_addRow_0.2.2.1
theorem dX4_addRow_6 : decode cX4_addRow 6 = .ok (.if_icmp .lt 6, 3) := eX4_addRow_0.2.2.2.1
theorem dX4_addRow_9 : decode cX4_addRow 9 = .ok (.bipush (-5), 2) := eX4_addRow_0.2.2.2.2.1
theorem dX4_addRow_11 : decode cX4_addRow 11 = .ok (.ireturn, 1) := eX4_addRow_0.2.2.2.2.2.1
theorem dX4_addRow_12 : decode cX4_addRow 12 = .ok (.aload_n 0, 1) := eX4_addRow_0.2.2.2.2.2.2.1
theorem dX4_addRow_13 : decode cX4_addRow 13 = .ok (.getfield 21, 3) := eX4_addRow_0.2.2.2.2.2.2.2
theorem eX4_addRow_8 : (decode cX4_addRow 16 = .ok (.aload_n 0, 1)) ∧ (decode cX4_addRow 17 = .ok (.getfield 37, 3)) ∧ (decode cX4_addRow 20 = .ok (.iload_n 1, 1)) ∧ (decode cX4_addRow 21 = .ok (.iastore, 1)) ∧ (decode cX4_addRow 22 = .ok (.aload_n 0, 1)) ∧ (decode cX4_addRow 23 = .ok (.getfield 24, 3)) ∧ (decode cX4_addRow 26 = .ok (.aload_n 0, 1)) ∧ (decode cX4_addRow 27 = .ok (.getfield 37, 3)) := by decide +kernel
theorem dX4_addRow_16 : decode cX4_addRow 16 = .ok (.aload_n 0, 1) := eX4_addRow_8.1
theorem dX4_addRow_17 : decode cX4_addRow 17 = .ok (.getfield 37, 3) := eX4_addRow_8.2.1
theorem dX4_addRow_20 : decode cX4_addRow 20 = .ok (.iload_n 1, 1) := eX4_addRow_8.2.2.1
theorem dX4_addRow_21 : decode cX4_addRow 21 = .ok (.iastore, 1) := eX4_addRow_8.2.2.2.1
theorem dX4_addRow_22 : decode cX4_addRow 22 = .ok (.aload_n 0, 1) := eX4_addRow_8.2.2.2.2.1
theorem dX4_addRow_23 : decode cX4_addRow 23 = .ok (.getfield 24, 3) := eX4_addRow_8.2.2.2.2.2.1
theorem dX4_addRow_26 : decode cX4_addRow 26 = .ok (.aload_n 0, 1) := eX4_addRow_8.2.2.2.2.2.2.1
theorem dX4_addRow_27 : decode cX4_addRow 27 = .ok (.getfield 37, 3) := eX4_addRow_8.2.2.2.2.2.2.2
theorem eX4_addRow_16 : (decode cX4_addRow 30 = .ok (.iload_n 2, 1)) ∧ (decode cX4_addRow 31 = .ok (.iastore, 1)) ∧ (decode cX4_addRow 32 = .ok (.aload_n 0, 1)) ∧ (decode cX4_addRow 33 = .ok (.getfield 27, 3)) ∧ (decode cX4_addRow 36 = .ok (.aload_n 0, 1)) ∧ (decode cX4_addRow 37 = .ok (.getfield 37, 3)) ∧ (decode cX4_addRow 40 = .ok (.iload_n 3, 1)) ∧ (decode cX4_addRow 41 = .ok (.iastore, 1)) := by decide +kernel
theorem dX4_addRow_30 : decode cX4_addRow 30 = .ok (.iload_n 2, 1) := eX4_addRow_16.1
theorem dX4_addRow_31 : decode cX4_addRow 31 = .ok (.iastore, 1) := eX4_addRow_16.2.1
theorem dX4_addRow_32 : decode cX4_addRow 32 = .ok (.aload_n 0, 1) := eX4_addRow_16.2.2.1
theorem dX4_addRow_33 : decode cX4_addRow 33 = .ok (.getfield 27, 3) := eX4_addRow_16.2.2.2.1
theorem dX4_addRow_36 : decode cX4_addRow 36 = .ok (.aload_n 0, 1) := eX4_addRow_16.2.2.2.2.1
theorem dX4_addRow_37 : decode cX4_addRow 37 = .ok (.getfield 37, 3) := eX4_addRow_16.2.2.2.2.2.1
theorem dX4_addRow_40 : decode cX4_addRow 40 = .ok (.iload_n 3, 1) := eX4_addRow_16.2.2.2.2.2.2.1
theorem dX4_addRow_41 : decode cX4_addRow 41 = .ok (.iastore, 1) := eX4_addRow_16.2.2.2.2.2.2.2
theorem eX4_addRow_24 : (decode cX4_addRow 42 = .ok (.aload_n 0, 1)) ∧ (decode cX4_addRow 43 = .ok (.getfield 30, 3)) ∧ (decode cX4_addRow 46 = .ok (.aload_n 0, 1)) ∧ (decode cX4_addRow 47 = .ok (.getfield 37, 3)) ∧ (decode cX4_addRow 50 = .ok (.iload 4, 2)) ∧ (decode cX4_addRow 52 = .ok (.iastore, 1)) ∧ (decode cX4_addRow 53 = .ok (.aload_n 0, 1)) ∧ (decode cX4_addRow 54 = .ok (.dup, 1)) := by decide +kernel
theorem dX4_addRow_42 : decode cX4_addRow 42 = .ok (.aload_n 0, 1) := eX4_addRow_24.1
theorem dX4_addRow_43 : decode cX4_addRow 43 = .ok (.getfield 30, 3) := eX4_addRow_24.2.1
theorem dX4_addRow_46 : decode cX4_addRow 46 = .ok (.aload_n 0, 1) := eX4_addRow_24.2.2.1
theorem dX4_addRow_47 : decode cX4_addRow 47 = .ok (.getfield 37, 3) := eX4_addRow_24.2.2.2.1
theorem dX4_addRow_50 : decode cX4_addRow 50 = .ok (.iload 4, 2) := eX4_addRow_24.2.2.2.2.1
theorem dX4_addRow_52 : decode cX4_addRow 52 = .ok (.iastore, 1) := eX4_addRow_24.2.2.2.2.2.1
theorem dX4_addRow_53 : decode cX4_addRow 53 = .ok (.aload_n 0, 1) := eX4_addRow_24.2.2.2.2.2.2.1
theorem dX4_addRow_54 : decode cX4_addRow 54 = .ok (.dup, 1) := eX4_addRow_24.2.2.2.2.2.2.2
theorem eX4_addRow_32 : (decode cX4_addRow 55 = .ok (.getfield 37, 3)) ∧ (decode cX4_addRow 58 = .ok (.iconst 1, 1)) ∧ (decode cX4_addRow 59 = .ok (.iadd, 1)) ∧ (decode cX4_addRow 60 = .ok (.putfield 37, 3)) ∧ (decode cX4_addRow 63 = .ok (.aload_n 0, 1)) ∧ (decode cX4_addRow 64 = .ok (.getfield 37, 3)) ∧ (decode cX4_addRow 67 = .ok (.ireturn, 1)) := by decide +kernel
theorem dX4_addRow_55 : decode cX4_addRow 55 = .ok (.getfield 37, 3) := eX4_addRow_32.1
theorem dX4_addRow_58 : decode cX4_addRow 58 = .ok (.iconst 1, 1) := eX4_addRow_32.2.1
theorem dX4_addRow_59 : decode cX4_addRow 59 = .ok (.iadd, 1) := eX4_addRow_32.2.2.1
theorem dX4_addRow_60 : decode cX4_addRow 60 = .ok (.putfield 37, 3) := eX4_addRow_32.2.2.2.1
theorem dX4_addRow_63 : decode cX4_addRow 63 = .ok (.aload_n 0, 1) := eX4_addRow_32.2.2.2.2.1
theorem dX4_addRow_64 : decode cX4_addRow 64 = .ok (.getfield 37, 3) := eX4_addRow_32.2.2.2.2.2.1
theorem dX4_addRow_67 : decode cX4_addRow 67 = .ok (.ireturn, 1) := eX4_addRow_32.2.2.2.2.2.2
theorem eX4_passes_0 : (decode cX4_passes 0 = .ok (.aload_n 1, 1)) ∧ (decode cX4_passes 1 = .ok (.aload_n 0, 1)) ∧ (decode cX4_passes 2 = .ok (.iconst 0, 1)) ∧ (decode cX4_passes 3 = .ok (.iload_n 2, 1)) ∧ (decode cX4_passes 4 = .ok (.iload_n 3, 1)) ∧ (decode cX4_passes 5 = .ok (.iload 4, 2)) ∧ (decode cX4_passes 7 = .ok (.invokevirtual 44, 3)) ∧ (decode cX4_passes 10 = .ok (.aload_n 0, 1)) := by decide +kernel
theorem dX4_passes_0 : decode cX4_passes 0 = .ok (.aload_n 1, 1) := eX4_passes_0.1
theorem dX4_passes_1 : decode cX4_passes 1 = .ok (.aload_n 0, 1) := eX4_passes_0.2.1
theorem dX4_passes_2 : decode cX4_passes 2 = .ok (.iconst 0, 1) := eX4_passes_0.2.2.1
theorem dX4_passes_3 : decode cX4_passes 3 = .ok (.iload_n 2, 1) := eX4_passes_0.2.2.2.1
theorem dX4_passes_4 : decode cX4_passes 4 = .ok (.iload_n 3, 1) := eX4_passes_0.2.2.2.2.1
theorem dX4_passes_5 : decode cX4_passes 5 = .ok (.iload 4, 2) := eX4_passes_0.2.2.2.2.2.1
theorem dX4_passes_7 : decode cX4_passes 7 = .ok (.invokevirtual 44, 3) := eX4_passes_0.2.2.2.2.2.2.1
theorem dX4_passes_10 : decode cX4_passes 10 = .ok (.aload_n 0, 1) := eX4_passes_0.2.2.2.2.2.2.2
theorem eX4_passes_8 : (decode cX4_passes 11 = .ok (.iconst 1, 1)) ∧ (decode cX4_passes 12 = .ok (.iload_n 2, 1)) ∧ (decode cX4_passes 13 = .ok (.iload_n 3, 1)) ∧ (decode cX4_passes 14 = .ok (.iload 4, 2)) ∧ (decode cX4_passes 16 = .ok (.invokevirtual 44, 3)) ∧ (decode cX4_passes 19 = .ok (.aload_n 0, 1)) ∧ (decode cX4_passes 20 = .ok (.getfield 9, 3)) ∧ (decode cX4_passes 23 = .ok (.iload_n 2, 1)) := by decide +kernel
theorem dX4_passes_11 : decode cX4_passes 11 = .ok (.iconst 1, 1) := eX4_passes_8.1
theorem dX4_passes_12 : decode cX4_passes 12 = .ok (.iload_n 2, 1) := eX4_passes_8.2.1
theorem dX4_passes_13 : decode cX4_passes 13 = .ok (.iload_n 3, 1) := eX4_passes_8.2.2.1
theorem dX4_passes_14 : decode cX4_passes 14 = .ok (.iload 4, 2) := eX4_passes_8.2.2.2.1
theorem dX4_passes_16 : decode cX4_passes 16 = .ok (.invokevirtual 44, 3) := eX4_passes_8.2.2.2.2.1
theorem dX4_passes_19 : decode cX4_passes 19 = .ok (.aload_n 0, 1) := eX4_passes_8.2.2.2.2.2.1
theorem dX4_passes_20 : decode cX4_passes 20 = .ok (.getfield 9, 3) := eX4_passes_8.2.2.2.2.2.2.1
theorem dX4_passes_23 : decode cX4_passes 23 = .ok (.iload_n 2, 1) := eX4_passes_8.2.2.2.2.2.2.2
theorem eX4_passes_16 : (decode cX4_passes 24 = .ok (.iaload, 1)) ∧ (decode cX4_passes 25 = .ok (.invokevirtual 48, 3)) ∧ (decode cX4_passes 28 = .ok (.ireturn, 1)) := by decide +kernel
theorem dX4_passes_24 : decode cX4_passes 24 = .ok (.iaload, 1) := eX4_passes_16.1
theorem dX4_passes_25 : decode cX4_passes 25 = .ok (.invokevirtual 48, 3) := eX4_passes_16.2.1
theorem dX4_passes_28 : decode cX4_passes 28 = .ok (.ireturn, 1) := eX4_passes_16.2.2
theorem eX4_hasRow_0 : (decode cX4_hasRow 0 = .ok (.iconst 0, 1)) ∧ (decode cX4_hasRow 1 = .ok (.istore 5, 2)) ∧ (decode cX4_hasRow 3 = .ok (.iload 5, 2)) ∧ (decode cX4_hasRow 5 = .ok (.aload_n 0, 1)) ∧ (decode cX4_hasRow 6 = .ok (.getfield 37, 3)) ∧ (decode cX4_hasRow 9 = .ok (.if_icmp .ge 56, 3)) ∧ (decode cX4_hasRow 12 = .ok (.aload_n 0, 1)) ∧ (decode cX4_hasRow 13 = .ok (.getfield 21, 3)) := by decide +kernel
theorem dX4_hasRow_0 : decode cX4_hasRow 0 = .ok (.iconst 0, 1) := eX4_hasRow_0.1
theorem dX4_hasRow_1 : decode cX4_hasRow 1 = .ok (.istore 5, 2) := eX4_hasRow_0.2.1
theorem dX4_hasRow_3 : decode cX4_hasRow 3 = .ok (.iload 5, 2) := eX4_hasRow_0.2.2.1
theorem dX4_hasRow_5 : decode cX4_hasRow 5 = .ok (.aload_n 0, 1) := eX4_hasRow_0.2.2.2.1
theorem dX4_hasRow_6 : decode cX4_hasRow 6 = .ok (.getfield 37, 3) := eX4_hasRow_0.2.2.2.2.1
theorem dX4_hasRow_9 : decode cX4_hasRow 9 = .ok (.if_icmp .ge 56, 3) := eX4_hasRow_0.2.2.2.2.2.1
theorem dX4_hasRow_12 : decode cX4_hasRow 12 = .ok (.aload_n 0, 1) := eX4_hasRow_0.2.2.2.2.2.2.1
theorem dX4_hasRow_13 : decode cX4_hasRow 13 = .ok (.getfield 21, 3) := eX4_hasRow_0.2.2.2.2.2.2.2
theorem eX4_hasRow_8 : (decode cX4_hasRow 16 = .ok (.iload 5, 2)) ∧ (decode cX4_hasRow 18 = .ok (.iaload, 1)) ∧ (decode cX4_hasRow 19 = .ok (.iload_n 1, 1)) ∧ (decode cX4_hasRow 20 = .ok (.if_icmp .ne 39, 3)) ∧ (decode cX4_hasRow 23 = .ok (.aload_n 0, 1)) ∧ (decode cX4_hasRow 24 = .ok (.getfield 24, 3)) ∧ (decode cX4_hasRow 27 = .ok (.iload 5, 2)) ∧ (decode cX4_hasRow 29 = .ok (.iaload, 1)) := by decide +kernel
theorem dX4_hasRow_16 : decode cX4_hasRow 16 = .ok (.iload 5, 2) := eX4_hasRow_8.1
theorem dX4_hasRow_18 : decode cX4_hasRow 18 = .ok (.iaload, 1) := eX4_hasRow_8.2.1
theorem dX4_hasRow_19 : decode cX4_hasRow 19 = .ok (.iload_n 1, 1) := eX4_hasRow_8.2.2.1
theorem dX4_hasRow_20 : decode cX4_hasRow 20 = .ok (.if_icmp .ne 39, 3) := eX4_hasRow_8.2.2.2.1
theorem dX4_hasRow_23 : decode cX4_hasRow 23 = .ok (.aload_n 0, 1) := eX4_hasRow_8.2.2.2.2.1
theorem dX4_hasRow_24 : decode cX4_hasRow 24 = .ok (.getfield 24, 3) := eX4_hasRow_8.2.2.2.2.2.1
theorem dX4_hasRow_27 : decode cX4_hasRow 27 = .ok (.iload 5, 2) := eX4_hasRow_8.2.2.2.2.2.2.1
theorem dX4_hasRow_29 : decode cX4_hasRow 29 = .ok (.iaload, 1) := eX4_hasRow_8.2.2.2.2.2.2.2
theorem eX4_hasRow_16 : (decode cX4_hasRow 30 = .ok (.iload_n 2, 1)) ∧ (decode cX4_hasRow 31 = .ok (.if_icmp .ne 28, 3)) ∧ (decode cX4_hasRow 34 = .ok (.aload_n 0, 1)) ∧ (decode cX4_hasRow 35 = .ok (.getfield 27, 3)) ∧ (decode cX4_hasRow 38 = .ok (.iload 5, 2)) ∧ (decode cX4_hasRow 40 = .ok (.iaload, 1)) ∧ (decode cX4_hasRow 41 = .ok (.iload_n 3, 1)) ∧ (decode cX4_hasRow 42 = .ok (.if_icmp .ne 17, 3)) := by decide +kernel
theorem dX4_hasRow_30 : decode cX4_hasRow 30 = .ok (.iload_n 2, 1) := eX4_hasRow_16.1
theorem dX4_hasRow_31 : decode cX4_hasRow 31 = .ok (.if_icmp .ne 28, 3) := eX4_hasRow_16.2.1
theorem dX4_hasRow_34 : decode cX4_hasRow 34 = .ok (.aload_n 0, 1) := eX4_hasRow_16.2.2.1
theorem dX4_hasRow_35 : decode cX4_hasRow 35 = .ok (.getfield 27, 3) := eX4_hasRow_16.2.2.2.1
theorem dX4_hasRow_38 : decode cX4_hasRow 38 = .ok (.iload 5, 2) := eX4_hasRow_16.2.2.2.2.1
theorem dX4_hasRow_40 : decode cX4_hasRow 40 = .ok (.iaload, 1) := eX4_hasRow_16.2.2.2.2.2.1
theorem dX4_hasRow_41 : decode cX4_hasRow 41 = .ok (.iload_n 3, 1) := eX4_hasRow_16.2.2.2.2.2.2.1
theorem dX4_hasRow_42 : decode cX4_hasRow 42 = .ok (.if_icmp .ne 17, 3) := eX4_hasRow_16.2.2.2.2.2.2.2
theorem eX4_hasRow_24 : (decode cX4_hasRow 45 = .ok (.aload_n 0, 1)) ∧ (decode cX4_hasRow 46 = .ok (.getfield 30, 3)) ∧ (decode cX4_hasRow 49 = .ok (.iload 5, 2)) ∧ (decode cX4_hasRow 51 = .ok (.iaload, 1)) ∧ (decode cX4_hasRow 52 = .ok (.iload 4, 2)) ∧ (decode cX4_hasRow 54 = .ok (.if_icmp .gt 5, 3)) ∧ (decode cX4_hasRow 57 = .ok (.iconst 1, 1)) ∧ (decode cX4_hasRow 58 = .ok (.ireturn, 1)) := by decide +kernel
theorem dX4_hasRow_45 : decode cX4_hasRow 45 = .ok (.aload_n 0, 1) := eX4_hasRow_24.1
theorem dX4_hasRow_46 : decode cX4_hasRow 46 = .ok (.getfield 30, 3) := eX4_hasRow_24.2.1
theorem dX4_hasRow_49 : decode cX4_hasRow 49 = .ok (.iload 5, 2) := eX4_hasRow_24.2.2.1
theorem dX4_hasRow_51 : decode cX4_hasRow 51 = .ok (.iaload, 1) := eX4_hasRow_24.2.2.2.1
theorem dX4_hasRow_52 : decode cX4_hasRow 52 = .ok (.iload 4, 2) := eX4_hasRow_24.2.2.2.2.1
theorem dX4_hasRow_54 : decode cX4_hasRow 54 = .ok (.if_icmp .gt 5, 3) := eX4_hasRow_24.2.2.2.2.2.1
theorem dX4_hasRow_57 : decode cX4_hasRow 57 = .ok (.iconst 1, 1) := eX4_hasRow_24.2.2.2.2.2.2.1
theorem dX4_hasRow_58 : decode cX4_hasRow 58 = .ok (.ireturn, 1) := eX4_hasRow_24.2.2.2.2.2.2.2
theorem eX4_hasRow_32 : (decode cX4_hasRow 59 = .ok (.iinc 5 1, 3)) ∧ (decode cX4_hasRow 62 = .ok (.goto (-59), 3)) ∧ (decode cX4_hasRow 65 = .ok (.iconst 0, 1)) ∧ (decode cX4_hasRow 66 = .ok (.ireturn, 1)) := by decide +kernel
theorem dX4_hasRow_59 : decode cX4_hasRow 59 = .ok (.iinc 5 1, 3) := eX4_hasRow_32.1
theorem dX4_hasRow_62 : decode cX4_hasRow 62 = .ok (.goto (-59), 3) := eX4_hasRow_32.2.1
theorem dX4_hasRow_65 : decode cX4_hasRow 65 = .ok (.iconst 0, 1) := eX4_hasRow_32.2.2.1
theorem dX4_hasRow_66 : decode cX4_hasRow 66 = .ok (.ireturn, 1) := eX4_hasRow_32.2.2.2
theorem eX5_init_0 : (decode cX5_init 0 = .ok (.aload_n 0, 1)) ∧ (decode cX5_init 1 = .ok (.invokespecial 3, 3)) ∧ (decode cX5_init 4 = .ok (.aload_n 0, 1)) ∧ (decode cX5_init 5 = .ok (.bipush 60, 2)) ∧ (decode cX5_init 7 = .ok (.newarray .int, 2)) ∧ (decode cX5_init 9 = .ok (.putfield 9, 3)) ∧ (decode cX5_init 12 = .ok (.aload_n 0, 1)) ∧ (decode cX5_init 13 = .ok (.bipush 60, 2)) := by decide +kernel
theorem dX5_init_0 : decode cX5_init 0 = .ok (.aload_n 0, 1) := eX5_init_0.1
theorem dX5_init_1 : decode cX5_init 1 = .ok (.invokespecial 3, 3) := eX5_init_0.2.1
theorem dX5_init_4 : decode cX5_init 4 = .ok (.aload_n 0, 1) := eX5_init_0.2.2.1
theorem dX5_init_5 : decode cX5_init 5 = .ok (.bipush 60, 2) := eX5_init_0.2.2.2.1
theorem dX5_init_7 : decode cX5_init 7 = .ok (.newarray .int, 2) := eX5_init_0.2.2.2.2.1
theorem dX5_init_9 : decode cX5_init 9 = .ok (.putfield 9, 3) := eX5_init_0.2.2.2.2.2.1
theorem dX5_init_12 : decode cX5_init 12 = .ok (.aload_n 0, 1) := eX5_init_0.2.2.2.2.2.2.1
theorem dX5_init_13 : decode cX5_init 13 = .ok (.bipush 60, 2) := eX5_init_0.2.2.2.2.2.2.2
theorem eX5_init_8 : (decode cX5_init 15 = .ok (.newarray .int, 2)) ∧ (decode cX5_init 17 = .ok (.putfield 15, 3)) ∧ (decode cX5_init 20 = .ok (.aload_n 0, 1)) ∧ (decode cX5_init 21 = .ok (.bipush 60, 2)) ∧ (decode cX5_init 23 = .ok (.newarray .int, 2)) ∧ (decode cX5_init 25 = .ok (.putfield 18, 3)) ∧ (decode cX5_init 28 = .ok (.aload_n 0, 1)) ∧ (decode cX5_init 29 = .ok (.bipush 50, 2)) := by decide +kernel
theorem dX5_init_15 : decode cX5_init 15 = .ok (.newarray .int, 2) := eX5_init_8.1
theorem dX5_init_17 : decode cX5_init 17 = .ok (.putfield 15, 3) := eX5_init_8.2.1
theorem dX5_init_20 : decode cX5_init 20 = .ok (.aload_n 0, 1) := eX5_init_8.2.2.1
theorem dX5_init_21 : decode cX5_init 21 = .ok (.bipush 60, 2) := eX5_init_8.2.2.2.1
theorem dX5_init_23 : decode cX5_init 23 = .ok (.newarray .int, 2) := eX5_init_8.2.2.2.2.1
theorem dX5_init_25 : decode cX5_init 25 = .ok (.putfield 18, 3) := eX5_init_8.2.2.2.2.2.1
theorem dX5_init_28 : decode cX5_init 28 = .ok (.aload_n 0, 1) := eX5_init_8.2.2.2.2.2.2.1
theorem dX5_init_29 : decode cX5_init 29 = .ok (.bipush 50, 2) := eX5_init_8.2.2.2.2.2.2.2
theorem eX5_init_16 : (decode cX5_init 31 = .ok (.putfield 21, 3)) ∧ (decode cX5_init 34 = .ok (.aload_n 0, 1)) ∧ (decode cX5_init 35 = .ok (.aload_n 1, 1)) ∧ (decode cX5_init 36 = .ok (.putfield 25, 3)) ∧ (decode cX5_init 39 = .ok (.aload_n 0, 1)) ∧ (decode cX5_init 40 = .ok (.aload_n 2, 1)) ∧ (decode cX5_init 41 = .ok (.putfield 29, 3)) ∧ (decode cX5_init 44 = .ok (.aload_n 0, 1)) := by decide +kernel
theorem dX5_init_31 : decode cX5_init 31 = .ok (.putfield 21, 3) := eX5_init_16.1
theorem dX5_init_34 : decode cX5_init 34 = .ok (.aload_n 0, 1) := eX5_init_16.2.1
theorem dX5_init_35 : decode cX5_init 35 = .ok (.aload_n 1, 1) := eX5_init_16.2.2.1
theorem dX5_init_36 : decode cX5_init 36 = .ok (.putfield 25, 3) := eX5_init_16.2.2.2.1
theorem dX5_init_39 : decode cX5_init 39 = .ok (.aload_n 0, 1) := eX5_init_16.2.2.2.2.1
theorem dX5_init_40 : decode cX5_init 40 = .ok (.aload_n 2, 1) := eX5_init_16.2.2.2.2.2.1
theorem dX5_init_41 : decode cX5_init 41 = .ok (.putfield 29, 3) := eX5_init_16.2.2.2.2.2.2.1
theorem dX5_init_44 : decode cX5_init 44 = .ok (.aload_n 0, 1) := eX5_init_16.2.2.2.2.2.2.2
theorem eX5_init_24 : (decode cX5_init 45 = .ok (.aload_n 3, 1)) ∧ (decode cX5_init 46 = .ok (.putfield 33, 3)) ∧ (decode cX5_init 49 = .ok (.return_, 1)) := by decide +kernel
theorem dX5_init_45 : decode cX5_init 45 = .ok (.aload_n 3, 1) := eX5_init_24.1
theorem dX5_init_46 : decode cX5_init 46 = .ok (.putfield 33, 3) := eX5_init_24.2.1
theorem dX5_init_49 : decode cX5_init 49 = .ok (.return_, 1) := eX5_init_24.2.2
theorem eX5_reckon_0 : (decode cX5_reckon 0 = .ok (.aload_n 0, 1)) ∧ (decode cX5_reckon 1 = .ok (.invokevirtual 37, 3)) ∧ (decode cX5_reckon 4 = .ok (.istore_n 1, 1)) ∧ (decode cX5_reckon 5 = .ok (.iconst 0, 1)) ∧ (decode cX5_reckon 6 = .ok (.istore_n 2, 1)) ∧ (decode cX5_reckon 7 = .ok (.iload_n 2, 1)) ∧ (decode cX5_reckon 8 = .ok (.iload_n 1, 1)) ∧ (decode cX5_reckon 9 = .ok (.if_icmp .ge 91, 3)) := by decide +kernel
theorem dX5_reckon_0 : decode cX5_reckon 0 = .ok (.aload_n 0, 1) := eX5_reckon_0.1
theorem dX5_reckon_1 : decode cX5_reckon 1 = .ok (.invokevirtual 37, 3) := eX5_reckon_0.2.1
theorem dX5_reckon_4 : decode cX5_reckon 4 = .ok (.istore_n 1, 1) := eX5_reckon_0.2.2.1
theorem dX5_reckon_5 : decode cX5_reckon 5 = .ok (.iconst 0, 1) := eX5_reckon_0.2.2.2.1
theorem dX5_reckon_6 : decode cX5_reckon 6 = .ok (.istore_n 2, 1) := eX5_reckon_0.2.2.2.2.1
theorem dX5_reckon_7 : decode cX5_reckon 7 = .ok (.iload_n 2, 1) := eX5_reckon_0.2.2.2.2.2.1
theorem dX5_reckon_8 : decode cX5_reckon 8 = .ok (.iload_n 1, 1) := eX5_reckon_0.2.2.2.2.2.2.1
theorem dX5_reckon_9 : decode cX5_reckon 9 = .ok (.if_icmp .ge 91, 3) := eX5_reckon_0.2.2.2.2.2.2.2
theorem eX5_reckon_8 : (decode cX5_reckon 12 = .ok (.aload_n 0, 1)) ∧ (decode cX5_reckon 13 = .ok (.getfield 9, 3)) ∧ (decode cX5_reckon 16 = .ok (.iload_n 2, 1)) ∧ (decode cX5_reckon 17 = .ok (.iaload, 1)) ∧ (decode cX5_reckon 18 = .ok (.istore_n 3, 1)) ∧ (decode cX5_reckon 19 = .ok (.aload_n 0, 1)) ∧ (decode cX5_reckon 20 = .ok (.iload_n 2, 1)) ∧ (decode cX5_reckon 21 = .ok (.invokevirtual 41, 3)) := by decide +kernel
theorem dX5_reckon_12 : decode cX5_reckon 12 = .ok (.aload_n 0, 1) := eX5_reckon_8.1
theorem dX5_reckon_13 : decode cX5_reckon 13 = .ok (.getfield 9, 3) := eX5_reckon_8.2.1
theorem dX5_reckon_16 : decode cX5_reckon 16 = .ok (.iload_n 2, 1) := eX5_reckon_8.2.2.1
theorem dX5_reckon_17 : decode cX5_reckon 17 = .ok (.iaload, 1) := eX5_reckon_8.2.2.2.1
theorem dX5_reckon_18 : decode cX5_reckon 18 = .ok (.istore_n 3, 1) := eX5_reckon_8.2.2.2.2.1
theorem dX5_reckon_19 : decode cX5_reckon 19 = .ok (.aload_n 0, 1) := eX5_reckon_8.2.2.2.2.2.1
theorem dX5_reckon_20 : decode cX5_reckon 20 = .ok (.iload_n 2, 1) := eX5_reckon_8.2.2.2.2.2.2.1
theorem dX5_reckon_21 : decode cX5_reckon 21 = .ok (.invokevirtual 41, 3) := eX5_reckon_8.2.2.2.2.2.2.2
theorem eX5_reckon_16 : (decode cX5_reckon 24 = .ok (.aload_n 0, 1)) ∧ (decode cX5_reckon 25 = .ok (.iload_n 2, 1)) ∧ (decode cX5_reckon 26 = .ok (.invokevirtual 45, 3)) ∧ (decode cX5_reckon 29 = .ok (.invokestatic 48, 3)) ∧ (decode cX5_reckon 32 = .ok (.istore 4, 2)) ∧ (decode cX5_reckon 34 = .ok (.aload_n 0, 1)) ∧ (decode cX5_reckon 35 = .ok (.getfield 33, 3)) ∧ (decode cX5_reckon 38 = .ok (.getfield 54, 3)) := by decide +kernel
theorem dX5_reckon_24 : decode cX5_reckon 24 = .ok (.aload_n 0, 1) := eX5_reckon_16.1
theorem dX5_reckon_25 : decode cX5_reckon 25 = .ok (.iload_n 2, 1) := eX5_reckon_16.2.1
theorem dX5_reckon_26 : decode cX5_reckon 26 = .ok (.invokevirtual 45, 3) := eX5_reckon_16.2.2.1
theorem dX5_reckon_29 : decode cX5_reckon 29 = .ok (.invokestatic 48, 3) := eX5_reckon_16.2.2.2.1
theorem dX5_reckon_32 : decode cX5_reckon 32 = .ok (.istore 4, 2) := eX5_reckon_16.2.2.2.2.1
theorem dX5_reckon_34 : decode cX5_reckon 34 = .ok (.aload_n 0, 1) := eX5_reckon_16.2.2.2.2.2.1
theorem dX5_reckon_35 : decode cX5_reckon 35 = .ok (.getfield 33, 3) := eX5_reckon_16.2.2.2.2.2.2.1
theorem dX5_reckon_38 : decode cX5_reckon 38 = .ok (.getfield 54, 3) := eX5_reckon_16.2.2.2.2.2.2.2
theorem eX5_reckon_24 : (decode cX5_reckon 41 = .ok (.iload_n 3, 1)) ∧ (decode cX5_reckon 42 = .ok (.iaload, 1)) ∧ (decode cX5_reckon 43 = .ok (.iload 4, 2)) ∧ (decode cX5_reckon 45 = .ok (.invokestatic 48, 3)) ∧ (decode cX5_reckon 48 = .ok (.istore 5, 2)) ∧ (decode cX5_reckon 50 = .ok (.aload_n 0, 1)) ∧ (decode cX5_reckon 51 = .ok (.getfield 15, 3)) ∧ (decode cX5_reckon 54 = .ok (.iload_n 3, 1)) := by decide +kernel
theorem dX5_reckon_41 : decode cX5_reckon 41 = .ok (.iload_n 3, 1) := eX5_reckon_24.1
theorem dX5_reckon_42 : decode cX5_reckon 42 = .ok (.iaload, 1) := eX5_reckon_24.2.1
theorem dX5_reckon_43 : decode cX5_reckon 43 = .ok (.iload 4, 2) := eX5_reckon_24.2.2.1
theorem dX5_reckon_45 : decode cX5_reckon 45 = .ok (.invokestatic 48, 3) := eX5_reckon_24.2.2.2.1
theorem dX5_reckon_48 : decode cX5_reckon 48 = .ok (.istore 5, 2) := eX5_reckon_24.2.2.2.2.1
theorem dX5_reckon_50 : decode cX5_reckon 50 = .ok (.aload_n 0, 1) := eX5_reckon_24.2.2.2.2.2.1
theorem dX5_reckon_51 : decode cX5_reckon 51 = .ok (.getfield 15, 3) := eX5_reckon_24.2.2.2.2.2.2.1
theorem dX5_reckon_54 : decode cX5_reckon 54 = .ok (.iload_n 3, 1) := eX5_reckon_24.2.2.2.2.2.2.2
theorem eX5_reckon_32 : (decode cX5_reckon 55 = .ok (.iload 5, 2)) ∧ (decode cX5_reckon 57 = .ok (.iastore, 1)) ∧ (decode cX5_reckon 58 = .ok (.aload_n 0, 1)) ∧ (decode cX5_reckon 59 = .ok (.getfield 18, 3)) ∧ (decode cX5_reckon 62 = .ok (.iload_n 3, 1)) ∧ (decode cX5_reckon 63 = .ok (.iload 5, 2)) ∧ (decode cX5_reckon 65 = .ok (.aload_n 0, 1)) ∧ (decode cX5_reckon 66 = .ok (.getfield 29, 3)) := by decide +kernel
theorem dX5_reckon_55 : decode cX5_reckon 55 = .ok (.iload 5, 2) := eX5_reckon_32.1
theorem dX5_reckon_57 : decode cX5_reckon 57 = .ok (.iastore, 1) := eX5_reckon_32.2.1
theorem dX5_reckon_58 : decode cX5_reckon 58 = .ok (.aload_n 0, 1) := eX5_reckon_32.2.2.1
theorem dX5_reckon_59 : decode cX5_reckon 59 = .ok (.getfield 18, 3) := eX5_reckon_32.2.2.2.1
theorem dX5_reckon_62 : decode cX5_reckon 62 = .ok (.iload_n 3, 1) := eX5_reckon_32.2.2.2.2.1
theorem dX5_reckon_63 : decode cX5_reckon 63 = .ok (.iload 5, 2) := eX5_reckon_32.2.2.2.2.2.1
theorem dX5_reckon_65 : decode cX5_reckon 65 = .ok (.aload_n 0, 1) := eX5_reckon_32.2.2.2.2.2.2.1
theorem dX5_reckon_66 : decode cX5_reckon 66 = .ok (.getfield 29, 3) := eX5_reckon_32.2.2.2.2.2.2.2
theorem eX5_reckon_40 : (decode cX5_reckon 69 = .ok (.getfield 59, 3)) ∧ (decode cX5_reckon 72 = .ok (.aload_n 0, 1)) ∧ (decode cX5_reckon 73 = .ok (.getfield 33, 3)) ∧ (decode cX5_reckon 76 = .ok (.getfield 64, 3)) ∧ (decode cX5_reckon 79 = .ok (.iload_n 3, 1)) ∧ (decode cX5_reckon 80 = .ok (.iaload, 1)) ∧ (decode cX5_reckon 81 = .ok (.iaload, 1)) ∧ (decode cX5_reckon 82 = .ok (.iadd, 1)) := by decide +kernel
theorem dX5_reckon_69 : decode cX5_reckon 69 = .ok (.getfield 59, 3) := eX5_reckon_40.1
theorem dX5_reckon_72 : decode cX5_reckon 72 = .ok (.aload_n 0, 1) := eX5_reckon_40.2.1
theorem dX5_reckon_73 : decode cX5_reckon 73 = .ok (.getfield 33, 3) := eX5_reckon_40.2.2.1
theorem dX5_reckon_76 : decode cX5_reckon 76 = .ok (.getfield 64, 3) := eX5_reckon_40.2.2.2.1
theorem dX5_reckon_79 : decode cX5_reckon 79 = .ok (.iload_n 3, 1) := eX5_reckon_40.2.2.2.2.1
theorem dX5_reckon_80 : decode cX5_reckon 80 = .ok (.iaload, 1) := eX5_reckon_40.2.2.2.2.2.1
theorem dX5_reckon_81 : decode cX5_reckon 81 = .ok (.iaload, 1) := eX5_reckon_40.2.2.2.2.2.2.1
theorem dX5_reckon_82 : decode cX5_reckon 82 = .ok (.iadd, 1) := eX5_reckon_40.2.2.2.2.2.2.2
theorem eX5_reckon_48 : (decode cX5_reckon 83 = .ok (.aload_n 0, 1)) ∧ (decode cX5_reckon 84 = .ok (.getfield 33, 3)) ∧ (decode cX5_reckon 87 = .ok (.getfield 67, 3)) ∧ (decode cX5_reckon 90 = .ok (.iload_n 3, 1)) ∧ (decode cX5_reckon 91 = .ok (.iaload, 1)) ∧ (decode cX5_reckon 92 = .ok (.iadd, 1)) ∧ (decode cX5_reckon 93 = .ok (.iastore, 1)) ∧ (decode cX5_reckon 94 = .ok (.iinc 2 1, 3)) := by decide +kernel
theorem dX5_reckon_83 : decode cX5_reckon 83 = .ok (.aload_n 0, 1) := eX5_reckon_48.1
theorem dX5_reckon_84 : decode cX5_reckon 84 = .ok (.getfield 33, 3) := eX5_reckon_48.2.1
theorem dX5_reckon_87 : decode cX5_reckon 87 = .ok (.getfield 67, 3) := eX5_reckon_48.2.2.1
theorem dX5_reckon_90 : decode cX5_reckon 90 = .ok (.iload_n 3, 1) := eX5_reckon_48.2.2.2.1
theorem dX5_reckon_91 : decode cX5_reckon 91 = .ok (.iaload, 1) := eX5_reckon_48.2.2.2.2.1
theorem dX5_reckon_92 : decode cX5_reckon 92 = .ok (.iadd, 1) := eX5_reckon_48.2.2.2.2.2.1
theorem dX5_reckon_93 : decode cX5_reckon 93 = .ok (.iastore, 1) := eX5_reckon_48.2.2.2.2.2.2.1
theorem dX5_reckon_94 : decode cX5_reckon 94 = .ok (.iinc 2 1, 3) := eX5_reckon_48.2.2.2.2.2.2.2
theorem eX5_reckon_56 : (decode cX5_reckon 97 = .ok (.goto (-90), 3)) ∧ (decode cX5_reckon 100 = .ok (.return_, 1)) := by decide +kernel
theorem dX5_reckon_97 : decode cX5_reckon 97 = .ok (.goto (-90), 3) := eX5_reckon_56.1
theorem dX5_reckon_100 : decode cX5_reckon 100 = .ok (.return_, 1) := eX5_reckon_56.2
theorem eX5_sortByBegin_0 : (decode cX5_sortByBegin 0 = .ok (.iconst 0, 1)) ∧ (decode cX5_sortByBegin 1 = .ok (.istore_n 1, 1)) ∧ (decode cX5_sortByBegin 2 = .ok (.iconst 0, 1)) ∧ (decode cX5_sortByBegin 3 = .ok (.istore_n 2, 1)) ∧ (decode cX5_sortByBegin 4 = .ok (.iload_n 2, 1)) ∧ (decode cX5_sortByBegin 5 = .ok (.aload_n 0, 1)) ∧ (decode cX5_sortByBegin 6 = .ok (.getfield 33, 3)) ∧ (decode cX5_sortByBegin 9 = .ok (.getfield 70, 3)) := by decide +kernel
theorem dX5_sortByBegin_0 : decode cX5_sortByBegin 0 = .ok (.iconst 0, 1) := eX5_sortByBegin_0.1
theorem dX5_sortByBegin_1 : decode cX5_sortByBegin 1 = .ok (.istore_n 1, 1) := eX5_sortByBegin_0.2.1
theorem dX5_sortByBegin_2 : decode cX5_sortByBegin 2 = .ok (.iconst 0, 1) := eX5_sortByBegin_0.2.2.1
theorem dX5_sortByBegin_3 : decode cX5_sortByBegin 3 = .ok (.istore_n 2, 1) := eX5_sortByBegin_0.2.2.2.1
theorem dX5_sortByBegin_4 : decode cX5_sortByBegin 4 = .ok (.iload_n 2, 1) := eX5_sortByBegin_0.2.2.2.2.1
theorem dX5_sortByBegin_5 : decode cX5_sortByBegin 5 = .ok (.aload_n 0, 1) := eX5_sortByBegin_0.2.2.2.2.2.1
theorem dX5_sortByBegin_6 : decode cX5_sortByBegin 6 = .ok (.getfield 33, 3) := eX5_sortByBegin_0.2.2.2.2.2.2.1
theorem dX5_sortByBegin_9 : decode cX5_sortByBegin 9 = .ok (.getfield 70, 3) := eX5_sortByBegin_0.2.2.2.2.2.2.2
theorem eX5_sortByBegin_8 : (decode cX5_sortByBegin 12 = .ok (.if_icmp .ge 85, 3)) ∧ (decode cX5_sortByBegin 15 = .ok (.aload_n 0, 1)) ∧ (decode cX5_sortByBegin 16 = .ok (.getfield 33, 3)) ∧ (decode cX5_sortByBegin 19 = .ok (.getfield 73, 3)) ∧ (decode cX5_sortByBegin 22 = .ok (.iload_n 2, 1)) ∧ (decode cX5_sortByBegin 23 = .ok (.baload, 1)) ∧ (decode cX5_sortByBegin 24 = .ok (.ifCond .eq 67, 3)) ∧ (decode cX5_sortByBegin 27 = .ok (.iload_n 1, 1)) := by decide +kernel
theorem dX5_sortByBegin_12 : decode cX5_sortByBegin 12 = .ok (.if_icmp .ge 85, 3) := eX5_sortByBegin_8.1
theorem dX5_sortByBegin_15 : decode cX5_sortByBegin 15 = .ok (.aload_n 0, 1) := eX5_sortByBegin_8.2.1
theorem dX5_sortByBegin_16 : decode cX5_sortByBegin 16 = .ok (.getfield 33, 3) := eX5_sortByBegin_8.2.2.1
theorem dX5_sortByBegin_19 : decode cX5_sortByBegin 19 = .ok (.getfield 73, 3) := eX5_sortByBegin_8.2.2.2.1
theorem dX5_sortByBegin_22 : decode cX5_sortByBegin 22 = .ok (.iload_n 2, 1) := eX5_sortByBegin_8.2.2.2.2.1
theorem dX5_sortByBegin_23 : decode cX5_sortByBegin 23 = .ok (.baload, 1) := eX5_sortByBegin_8.2.2.2.2.2.1
theorem dX5_sortByBegin_24 : decode cX5_sortByBegin 24 = .ok (.ifCond .eq 67, 3) := eX5_sortByBegin_8.2.2.2.2.2.2.1
theorem dX5_sortByBegin_27 : decode cX5_sortByBegin 27 = .ok (.iload_n 1, 1) := eX5_sortByBegin_8.2.2.2.2.2.2.2
theorem eX5_sortByBegin_16 : (decode cX5_sortByBegin 28 = .ok (.istore_n 3, 1)) ∧ (decode cX5_sortByBegin 29 = .ok (.iload_n 3, 1)) ∧ (decode cX5_sortByBegin 30 = .ok (.ifCond .le 51, 3)) ∧ (decode cX5_sortByBegin 33 = .ok (.aload_n 0, 1)) ∧ (decode cX5_sortByBegin 34 = .ok (.getfield 33, 3)) ∧ (decode cX5_sortByBegin 37 = .ok (.getfield 54, 3)) ∧ (decode cX5_sortByBegin 40 = .ok (.aload_n 0, 1)) ∧ (decode cX5_sortByBegin 41 = .ok (.getfield 9, 3)) := by decide +kernel
theorem dX5_sortByBegin_28 : decode cX5_sortByBegin 28 = .ok (.istore_n 3, 1) := eX5_sortByBegin_16.1
theorem dX5_sortByBegin_29 : decode cX5_sortByBegin 29 = .ok (.iload_n 3, 1) := eX5_sortByBegin_16.2.1
theorem dX5_sortByBegin_30 : decode cX5_sortByBegin 30 = .ok (.ifCond .le 51, 3) := eX5_sortByBegin_16.2.2.1
theorem dX5_sortByBegin_33 : decode cX5_sortByBegin 33 = .ok (.aload_n 0, 1) := eX5_sortByBegin_16.2.2.2.1
theorem dX5_sortByBegin_34 : decode cX5_sortByBegin 34 = .ok (.getfield 33, 3) := eX5_sortByBegin_16.2.2.2.2.1
theorem dX5_sortByBegin_37 : decode cX5_sortByBegin 37 = .ok (.getfield 54, 3) := eX5_sortByBegin_16.2.2.2.2.2.1
theorem dX5_sortByBegin_40 : decode cX5_sortByBegin 40 = .ok (.aload_n 0, 1) := eX5_sortByBegin_16.2.2.2.2.2.2.1
theorem dX5_sortByBegin_41 : decode cX5_sortByBegin 41 = .ok (.getfield 9, 3) := eX5_sortByBegin_16.2.2.2.2.2.2.2
theorem eX5_sortByBegin_24 : (decode cX5_sortByBegin 44 = .ok (.iload_n 3, 1)) ∧ (decode cX5_sortByBegin 45 = .ok (.iconst 1, 1)) ∧ (decode cX5_sortByBegin 46 = .ok (.isub, 1)) ∧ (decode cX5_sortByBegin 47 = .ok (.iaload, 1)) ∧ (decode cX5_sortByBegin 48 = .ok (.iaload, 1)) ∧ (decode cX5_sortByBegin 49 = .ok (.aload_n 0, 1)) ∧ (decode cX5_sortByBegin 50 = .ok (.getfield 33, 3)) ∧ (decode cX5_sortByBegin 53 = .ok (.getfield 54, 3)) := by decide +kernel
theorem dX5_sortByBegin_44 : decode cX5_sortByBegin 44 = .ok (.iload_n 3, 1) := eX5_sortByBegin_24.1
theorem dX5_sortByBegin_45 : decode cX5_sortByBegin 45 = .ok (.iconst 1, 1) := eX5_sortByBegin_24.2.1
theorem dX5_sortByBegin_46 : decode cX5_sortByBegin 46 = .ok (.isub, 1) := eX5_sortByBegin_24.2.2.1
theorem dX5_sortByBegin_47 : decode cX5_sortByBegin 47 = .ok (.iaload, 1) := eX5_sortByBegin_24.2.2.2.1
theorem dX5_sortByBegin_48 : decode cX5_sortByBegin 48 = .ok (.iaload, 1) := eX5_sortByBegin_24.2.2.2.2.1
theorem dX5_sortByBegin_49 : decode cX5_sortByBegin 49 = .ok (.aload_n 0, 1) := eX5_sortByBegin_24.2.2.2.2.2.1
theorem dX5_sortByBegin_50 : decode cX5_sortByBegin 50 = .ok (.getfield 33, 3) := eX5_sortByBegin_24.2.2.2.2.2.2.1
theorem dX5_sortByBegin_53 : decode cX5_sortByBegin 53 = .ok (.getfield 54, 3) := eX5_sortByBegin_24.2.2.2.2.2.2.2
theorem eX5_sortByBegin_32 : (decode cX5_sortByBegin 56 = .ok (.iload_n 2, 1)) ∧ (decode cX5_sortByBegin 57 = .ok (.iaload, 1)) ∧ (decode cX5_sortByBegin 58 = .ok (.if_icmp .le 23, 3)) ∧ (decode cX5_sortByBegin 61 = .ok (.aload_n 0, 1)) ∧ (decode cX5_sortByBegin 62 = .ok (.getfield 9, 3)) ∧ (decode cX5_sortByBegin 65 = .ok (.iload_n 3, 1)) ∧ (decode cX5_sortByBegin 66 = .ok (.aload_n 0, 1)) ∧ (decode cX5_sortByBegin 67 = .ok (.getfield 9, 3)) := by decide +kernel
theorem dX5_sortByBegin_56 : decode cX5_sortByBegin 56 = .ok (.iload_n 2, 1) := eX5_sortByBegin_32.1
theorem dX5_sortByBegin_57 : decode cX5_sortByBegin 57 = .ok (.iaload, 1) := eX5_sortByBegin_32.2.1
theorem dX5_sortByBegin_58 : decode cX5_sortByBegin 58 = .ok (.if_icmp .le 23, 3) := eX5_sortByBegin_32.2.2.1
theorem dX5_sortByBegin_61 : decode cX5_sortByBegin 61 = .ok (.aload_n 0, 1) := eX5_sortByBegin_32.2.2.2.1
theorem dX5_sortByBegin_62 : decode cX5_sortByBegin 62 = .ok (.getfield 9, 3) := eX5_sortByBegin_32.2.2.2.2.1
theorem dX5_sortByBegin_65 : decode cX5_sortByBegin 65 = .ok (.iload_n 3, 1) := eX5_sortByBegin_32.2.2.2.2.2.1
theorem dX5_sortByBegin_66 : decode cX5_sortByBegin 66 = .ok (.aload_n 0, 1) := eX5_sortByBegin_32.2.2.2.2.2.2.1
theorem dX5_sortByBegin_67 : decode cX5_sortByBegin 67 = .ok (.getfield 9, 3) := eX5_sortByBegin_32.2.2.2.2.2.2.2
theorem eX5_sortByBegin_40 : (decode cX5_sortByBegin 70 = .ok (.iload_n 3, 1)) ∧ (decode cX5_sortByBegin 71 = .ok (.iconst 1, 1)) ∧ (decode cX5_sortByBegin 72 = .ok (.isub, 1)) ∧ (decode cX5_sortByBegin 73 = .ok (.iaload, 1)) ∧ (decode cX5_sortByBegin 74 = .ok (.iastore, 1)) ∧ (decode cX5_sortByBegin 75 = .ok (.iinc 3 (-1), 3)) ∧ (decode cX5_sortByBegin 78 = .ok (.goto (-49), 3)) ∧ (decode cX5_sortByBegin 81 = .ok (.aload_n 0, 1)) := by decide +kernel
theorem dX5_sortByBegin_70 : decode cX5_sortByBegin 70 = .ok (.iload_n 3, 1) := eX5_sortByBegin_40.1
theorem dX5_sortByBegin_71 : decode cX5_sortByBegin 71 = .ok (.iconst 1, 1) := eX5_sortByBegin_40.2.1
theorem dX5_sortByBegin_72 : decode cX5_sortByBegin 72 = .ok (.isub, 1) := eX5_sortByBegin_40.2.2.1
theorem dX5_sortByBegin_73 : decode cX5_sortByBegin 73 = .ok (.iaload, 1) := eX5_sortByBegin_40.2.2.2.1
theorem dX5_sortByBegin_74 : decode cX5_sortByBegin 74 = .ok (.iastore, 1) := eX5_sortByBegin_40.2.2.2.2.1
theorem dX5_sortByBegin_75 : decode cX5_sortByBegin 75 = .ok (.iinc 3 (-1), 3) := eX5_sortByBegin_40.2.2.2.2.2.1
theorem dX5_sortByBegin_78 : decode cX5_sortByBegin 78 = .ok (.goto (-49), 3) := eX5_sortByBegin_40.2.2.2.2.2.2.1
theorem dX5_sortByBegin_81 : decode cX5_sortByBegin 81 = .ok (.aload_n 0, 1) := eX5_sortByBegin_40.2.2.2.2.2.2.2
theorem eX5_sortByBegin_48 : (decode cX5_sortByBegin 82 = .ok (.getfield 9, 3)) ∧ (decode cX5_sortByBegin 85 = .ok (.iload_n 3, 1)) ∧ (decode cX5_sortByBegin 86 = .ok (.iload_n 2, 1)) ∧ (decode cX5_sortByBegin 87 = .ok (.iastore, 1)) ∧ (decode cX5_sortByBegin 88 = .ok (.iinc 1 1, 3)) ∧ (decode cX5_sortByBegin 91 = .ok (.iinc 2 1, 3)) ∧ (decode cX5_sortByBegin 94 = .ok (.goto (-90), 3)) ∧ (decode cX5_sortByBegin 97 = .ok (.iload_n 1, 1)) := by decide +kernel
theorem dX5_sortByBegin_82 : decode cX5_sortByBegin 82 = .ok (.getfield 9, 3) := eX5_sortByBegin_48.1
theorem dX5_sortByBegin_85 : decode cX5_sortByBegin 85 = .ok (.iload_n 3, 1) := eX5_sortByBegin_48.2.1
theorem dX5_sortByBegin_86 : decode cX5_sortByBegin 86 = .ok (.iload_n 2, 1) := eX5_sortByBegin_48.2.2.1
theorem dX5_sortByBegin_87 : decode cX5_sortByBegin 87 = .ok (.iastore, 1) := eX5_sortByBegin_48.2.2.2.1
theorem dX5_sortByBegin_88 : decode cX5_sortByBegin 88 = .ok (.iinc 1 1, 3) := eX5_sortByBegin_48.2.2.2.2.1
theorem dX5_sortByBegin_91 : decode cX5_sortByBegin 91 = .ok (.iinc 2 1, 3) := eX5_sortByBegin_48.2.2.2.2.2.1
theorem dX5_sortByBegin_94 : decode cX5_sortByBegin 94 = .ok (.goto (-90), 3) := eX5_sortByBegin_48.2.2.2.2.2.2.1
theorem dX5_sortByBegin_97 : decode cX5_sortByBegin 97 = .ok (.iload_n 1, 1) := eX5_sortByBegin_48.2.2.2.2.2.2.2
theorem dX5_sortByBegin_98 : decode cX5_sortByBegin 98 = .ok (.ireturn, 1) := by decide +kernel
theorem eX5_hallFree_0 : (decode cX5_hallFree 0 = .ok (.aload_n 0, 1)) ∧ (decode cX5_hallFree 1 = .ok (.getfield 33, 3)) ∧ (decode cX5_hallFree 4 = .ok (.getfield 77, 3)) ∧ (decode cX5_hallFree 7 = .ok (.aload_n 0, 1)) ∧ (decode cX5_hallFree 8 = .ok (.getfield 9, 3)) ∧ (decode cX5_hallFree 11 = .ok (.iload_n 1, 1)) ∧ (decode cX5_hallFree 12 = .ok (.iaload, 1)) ∧ (decode cX5_hallFree 13 = .ok (.iaload, 1)) := by decide +kernel
theorem dX5_hallFree_0 : decode cX5_hallFree 0 = .ok (.aload_n 0, 1) := eX5_hallFree_0.1
theorem dX5_hallFree_1 : decode cX5_hallFree 1 = .ok (.getfield 33, 3) := eX5_hallFree_0.2.1
theorem dX5_hallFree_4 : decode cX5_hallFree 4 = .ok (.getfield 77, 3) := eX5_hallFree_0.2.2.1
theorem dX5_hallFree_7 : decode cX5_hallFree 7 = .ok (.aload_n 0, 1) := eX5_hallFree_0.2.2.2.1
theorem dX5_hallFree_8 : decode cX5_hallFree 8 = .ok (.getfield 9, 3) := eX5_hallFree_0.2.2.2.2.1
theorem dX5_hallFree_11 : decode cX5_hallFree 11 = .ok (.iload_n 1, 1) := eX5_hallFree_0.2.2.2.2.2.1
theorem dX5_hallFree_12 : decode cX5_hallFree 12 = .ok (.iaload, 1) := eX5_hallFree_0.2.2.2.2.2.2.1
theorem dX5_hallFree_13 : decode cX5_hallFree 13 = .ok (.iaload, 1) := eX5_hallFree_0.2.2.2.2.2.2.2
theorem eX5_hallFree_8 : (decode cX5_hallFree 14 = .ok (.istore_n 2, 1)) ∧ (decode cX5_hallFree 15 = .ok (.iload_n 1, 1)) ∧ (decode cX5_hallFree 16 = .ok (.iconst 1, 1)) ∧ (decode cX5_hallFree 17 = .ok (.isub, 1)) ∧ (decode cX5_hallFree 18 = .ok (.istore_n 3, 1)) ∧ (decode cX5_hallFree 19 = .ok (.iload_n 3, 1)) ∧ (decode cX5_hallFree 20 = .ok (.ifCond .lt 49, 3)) ∧ (decode cX5_hallFree 23 = .ok (.aload_n 0, 1)) := by decide +kernel
theorem dX5_hallFree_14 : decode cX5_hallFree 14 = .ok (.istore_n 2, 1) := eX5_hallFree_8.1
theorem dX5_hallFree_15 : decode cX5_hallFree 15 = .ok (.iload_n 1, 1) := eX5_hallFree_8.2.1
theorem dX5_hallFree_16 : decode cX5_hallFree 16 = .ok (.iconst 1, 1) := eX5_hallFree_8.2.2.1
theorem dX5_hallFree_17 : decode cX5_hallFree 17 = .ok (.isub, 1) := eX5_hallFree_8.2.2.2.1
theorem dX5_hallFree_18 : decode cX5_hallFree 18 = .ok (.istore_n 3, 1) := eX5_hallFree_8.2.2.2.2.1
theorem dX5_hallFree_19 : decode cX5_hallFree 19 = .ok (.iload_n 3, 1) := eX5_hallFree_8.2.2.2.2.2.1
theorem dX5_hallFree_20 : decode cX5_hallFree 20 = .ok (.ifCond .lt 49, 3) := eX5_hallFree_8.2.2.2.2.2.2.1
theorem dX5_hallFree_23 : decode cX5_hallFree 23 = .ok (.aload_n 0, 1) := eX5_hallFree_8.2.2.2.2.2.2.2
theorem eX5_hallFree_16 : (decode cX5_hallFree 24 = .ok (.getfield 9, 3)) ∧ (decode cX5_hallFree 27 = .ok (.iload_n 3, 1)) ∧ (decode cX5_hallFree 28 = .ok (.iaload, 1)) ∧ (decode cX5_hallFree 29 = .ok (.istore 4, 2)) ∧ (decode cX5_hallFree 31 = .ok (.aload_n 0, 1)) ∧ (decode cX5_hallFree 32 = .ok (.getfield 33, 3)) ∧ (decode cX5_hallFree 35 = .ok (.getfield 77, 3)) ∧ (decode cX5_hallFree 38 = .ok (.iload 4, 2)) := by decide +kernel
theorem dX5_hallFree_24 : decode cX5_hallFree 24 = .ok (.getfield 9, 3) := eX5_hallFree_16.1
theorem dX5_hallFree_27 : decode cX5_hallFree 27 = .ok (.iload_n 3, 1) := eX5_hallFree_16.2.1
theorem dX5_hallFree_28 : decode cX5_hallFree 28 = .ok (.iaload, 1) := eX5_hallFree_16.2.2.1
theorem dX5_hallFree_29 : decode cX5_hallFree 29 = .ok (.istore 4, 2) := eX5_hallFree_16.2.2.2.1
theorem dX5_hallFree_31 : decode cX5_hallFree 31 = .ok (.aload_n 0, 1) := eX5_hallFree_16.2.2.2.2.1
theorem dX5_hallFree_32 : decode cX5_hallFree 32 = .ok (.getfield 33, 3) := eX5_hallFree_16.2.2.2.2.2.1
theorem dX5_hallFree_35 : decode cX5_hallFree 35 = .ok (.getfield 77, 3) := eX5_hallFree_16.2.2.2.2.2.2.1
theorem dX5_hallFree_38 : decode cX5_hallFree 38 = .ok (.iload 4, 2) := eX5_hallFree_16.2.2.2.2.2.2.2
theorem eX5_hallFree_24 : (decode cX5_hallFree 40 = .ok (.iaload, 1)) ∧ (decode cX5_hallFree 41 = .ok (.iload_n 2, 1)) ∧ (decode cX5_hallFree 42 = .ok (.if_icmp .ne 21, 3)) ∧ (decode cX5_hallFree 45 = .ok (.aload_n 0, 1)) ∧ (decode cX5_hallFree 46 = .ok (.getfield 18, 3)) ∧ (decode cX5_hallFree 49 = .ok (.iload 4, 2)) ∧ (decode cX5_hallFree 51 = .ok (.iaload, 1)) ∧ (decode cX5_hallFree 52 = .ok (.aload_n 0, 1)) := by decide +kernel
theorem dX5_hallFree_40 : decode cX5_hallFree 40 = .ok (.iaload, 1) := eX5_hallFree_24.1
theorem dX5_hallFree_41 : decode cX5_hallFree 41 = .ok (.iload_n 2, 1) := eX5_hallFree_24.2.1
theorem dX5_hallFree_42 : decode cX5_hallFree 42 = .ok (.if_icmp .ne 21, 3) := eX5_hallFree_24.2.2.1
theorem dX5_hallFree_45 : decode cX5_hallFree 45 = .ok (.aload_n 0, 1) := eX5_hallFree_24.2.2.2.1
theorem dX5_hallFree_46 : decode cX5_hallFree 46 = .ok (.getfield 18, 3) := eX5_hallFree_24.2.2.2.2.1
theorem dX5_hallFree_49 : decode cX5_hallFree 49 = .ok (.iload 4, 2) := eX5_hallFree_24.2.2.2.2.2.1
theorem dX5_hallFree_51 : decode cX5_hallFree 51 = .ok (.iaload, 1) := eX5_hallFree_24.2.2.2.2.2.2.1
theorem dX5_hallFree_52 : decode cX5_hallFree 52 = .ok (.aload_n 0, 1) := eX5_hallFree_24.2.2.2.2.2.2.2
theorem eX5_hallFree_32 : (decode cX5_hallFree 53 = .ok (.getfield 25, 3)) ∧ (decode cX5_hallFree 56 = .ok (.getfield 80, 3)) ∧ (decode cX5_hallFree 59 = .ok (.iload_n 2, 1)) ∧ (decode cX5_hallFree 60 = .ok (.iaload, 1)) ∧ (decode cX5_hallFree 61 = .ok (.iadd, 1)) ∧ (decode cX5_hallFree 62 = .ok (.ireturn, 1)) ∧ (decode cX5_hallFree 63 = .ok (.iinc 3 (-1), 3)) ∧ (decode cX5_hallFree 66 = .ok (.goto (-47), 3)) := by decide +kernel
theorem dX5_hallFree_53 : decode cX5_hallFree 53 = .ok (.getfield 25, 3) := eX5_hallFree_32.1
theorem dX5_hallFree_56 : decode cX5_hallFree 56 = .ok (.getfield 80, 3) := eX5_hallFree_32.2.1
theorem dX5_hallFree_59 : decode cX5_hallFree 59 = .ok (.iload_n 2, 1) := eX5_hallFree_32.2.2.1
theorem dX5_hallFree_60 : decode cX5_hallFree 60 = .ok (.iaload, 1) := eX5_hallFree_32.2.2.2.1
theorem dX5_hallFree_61 : decode cX5_hallFree 61 = .ok (.iadd, 1) := eX5_hallFree_32.2.2.2.2.1
theorem dX5_hallFree_62 : decode cX5_hallFree 62 = .ok (.ireturn, 1) := eX5_hallFree_32.2.2.2.2.2.1
theorem dX5_hallFree_63 : decode cX5_hallFree 63 = .ok (.iinc 3 (-1), 3) := eX5_hallFree_32.2.2.2.2.2.2.1
theorem dX5_hallFree_66 : decode cX5_hallFree 66 = .ok (.goto (-47), 3) := eX5_hallFree_32.2.2.2.2.2.2.2
theorem eX5_hallFree_40 : (decode cX5_hallFree 69 = .ok (.iconst 0, 1)) ∧ (decode cX5_hallFree 70 = .ok (.ireturn, 1)) := by decide +kernel
theorem dX5_hallFree_69 : decode cX5_hallFree 69 = .ok (.iconst 0, 1) := eX5_hallFree_40.1
theorem dX5_hallFree_70 : decode cX5_hallFree 70 = .ok (.ireturn, 1) := eX5_hallFree_40.2
theorem eX5_printFree_0 : (decode cX5_printFree 0 = .ok (.aload_n 0, 1)) ∧ (decode cX5_printFree 1 = .ok (.getfield 9, 3)) ∧ (decode cX5_printFree 4 = .ok (.iload_n 1, 1)) ∧ (decode cX5_printFree 5 = .ok (.iaload, 1)) ∧ (decode cX5_printFree 6 = .ok (.istore_n 2, 1)) ∧ (decode cX5_printFree 7 = .ok (.iload_n 1, 1)) ∧ (decode cX5_printFree 8 = .ok (.iconst 1, 1)) ∧ (decode cX5_printFree 9 = .ok (.isub, 1)) := by decide +kernel
theorem dX5_printFree_0 : decode cX5_printFree 0 = .ok (.aload_n 0, 1) := eX5_printFree_0.1
theorem dX5_printFree_1 : decode cX5_printFree 1 = .ok (.getfield 9, 3) := eX5_printFree_0.2.1
theorem dX5_printFree_4 : decode cX5_printFree 4 = .ok (.iload_n 1, 1) := eX5_printFree_0.2.2.1
theorem dX5_printFree_5 : decode cX5_printFree 5 = .ok (.iaload, 1) := eX5_printFree_0.2.2.2.1
theorem dX5_printFree_6 : decode cX5_printFree 6 = .ok (.istore_n 2, 1) := eX5_printFree_0.2.2.2.2.1
theorem dX5_printFree_7 : decode cX5_printFree 7 = .ok (.iload_n 1, 1) := eX5_printFree_0.2.2.2.2.2.1
theorem dX5_printFree_8 : decode cX5_printFree 8 = .ok (.iconst 1, 1) := eX5_printFree_0.2.2.2.2.2.2.1
theorem dX5_printFree_9 : decode cX5_printFree 9 = .ok (.isub, 1) := eX5_printFree_0.2.2.2.2.2.2.2
theorem eX5_printFree_8 : (decode cX5_printFree 10 = .ok (.istore_n 3, 1)) ∧ (decode cX5_printFree 11 = .ok (.iload_n 3, 1)) ∧ (decode cX5_printFree 12 = .ok (.ifCond .lt 74, 3)) ∧ (decode cX5_printFree 15 = .ok (.aload_n 0, 1)) ∧ (decode cX5_printFree 16 = .ok (.getfield 9, 3)) ∧ (decode cX5_printFree 19 = .ok (.iload_n 3, 1)) ∧ (decode cX5_printFree 20 = .ok (.iaload, 1)) ∧ (decode cX5_printFree 21 = .ok (.istore 4, 2)) := by decide +kernel
theorem dX5_printFree_10 : decode cX5_printFree 10 = .ok (.istore_n 3, 1) := eX5_printFree_8.1
theorem dX5_printFree_11 : decode cX5_printFree 11 = .ok (.iload_n 3, 1) := eX5_printFree_8.2.1
theorem dX5_printFree_12 : decode cX5_printFree 12 = .ok (.ifCond .lt 74, 3) := eX5_printFree_8.2.2.1
theorem dX5_printFree_15 : decode cX5_printFree 15 = .ok (.aload_n 0, 1) := eX5_printFree_8.2.2.2.1
theorem dX5_printFree_16 : decode cX5_printFree 16 = .ok (.getfield 9, 3) := eX5_printFree_8.2.2.2.2.1
theorem dX5_printFree_19 : decode cX5_printFree 19 = .ok (.iload_n 3, 1) := eX5_printFree_8.2.2.2.2.2.1
theorem dX5_printFree_20 : decode cX5_printFree 20 = .ok (.iaload, 1) := eX5_printFree_8.2.2.2.2.2.2.1
theorem dX5_printFree_21 : decode cX5_printFree 21 = .ok (.istore 4, 2) := eX5_printFree_8.2.2.2.2.2.2.2
theorem eX5_printFree_16 : (decode cX5_printFree 23 = .ok (.aload_n 0, 1)) ∧ (decode cX5_printFree 24 = .ok (.getfield 33, 3)) ∧ (decode cX5_printFree 27 = .ok (.getfield 64, 3)) ∧ (decode cX5_printFree 30 = .ok (.iload 4, 2)) ∧ (decode cX5_printFree 32 = .ok (.iaload, 1)) ∧ (decode cX5_printFree 33 = .ok (.aload_n 0, 1)) ∧ (decode cX5_printFree 34 = .ok (.getfield 33, 3)) ∧ (decode cX5_printFree 37 = .ok (.getfield 64, 3)) := by decide +kernel
theorem dX5_printFree_23 : decode cX5_printFree 23 = .ok (.aload_n 0, 1) := eX5_printFree_16.1
theorem dX5_printFree_24 : decode cX5_printFree 24 = .ok (.getfield 33, 3) := eX5_printFree_16.2.1
theorem dX5_printFree_27 : decode cX5_printFree 27 = .ok (.getfield 64, 3) := eX5_printFree_16.2.2.1
theorem dX5_printFree_30 : decode cX5_printFree 30 = .ok (.iload 4, 2) := eX5_printFree_16.2.2.2.1
theorem dX5_printFree_32 : decode cX5_printFree 32 = .ok (.iaload, 1) := eX5_printFree_16.2.2.2.2.1
theorem dX5_printFree_33 : decode cX5_printFree 33 = .ok (.aload_n 0, 1) := eX5_printFree_16.2.2.2.2.2.1
theorem dX5_printFree_34 : decode cX5_printFree 34 = .ok (.getfield 33, 3) := eX5_printFree_16.2.2.2.2.2.2.1
theorem dX5_printFree_37 : decode cX5_printFree 37 = .ok (.getfield 64, 3) := eX5_printFree_16.2.2.2.2.2.2.2
theorem eX5_printFree_24 : (decode cX5_printFree 40 = .ok (.iload_n 2, 1)) ∧ (decode cX5_printFree 41 = .ok (.iaload, 1)) ∧ (decode cX5_printFree 42 = .ok (.if_icmp .ne 38, 3)) ∧ (decode cX5_printFree 45 = .ok (.aload_n 0, 1)) ∧ (decode cX5_printFree 46 = .ok (.getfield 18, 3)) ∧ (decode cX5_printFree 49 = .ok (.iload 4, 2)) ∧ (decode cX5_printFree 51 = .ok (.iaload, 1)) ∧ (decode cX5_printFree 52 = .ok (.aload_n 0, 1)) := by decide +kernel
theorem dX5_printFree_40 : decode cX5_printFree 40 = .ok (.iload_n 2, 1) := eX5_printFree_24.1
theorem dX5_printFree_41 : decode cX5_printFree 41 = .ok (.iaload, 1) := eX5_printFree_24.2.1
theorem dX5_printFree_42 : decode cX5_printFree 42 = .ok (.if_icmp .ne 38, 3) := eX5_printFree_24.2.2.1
theorem dX5_printFree_45 : decode cX5_printFree 45 = .ok (.aload_n 0, 1) := eX5_printFree_24.2.2.2.1
theorem dX5_printFree_46 : decode cX5_printFree 46 = .ok (.getfield 18, 3) := eX5_printFree_24.2.2.2.2.1
theorem dX5_printFree_49 : decode cX5_printFree 49 = .ok (.iload 4, 2) := eX5_printFree_24.2.2.2.2.2.1
theorem dX5_printFree_51 : decode cX5_printFree 51 = .ok (.iaload, 1) := eX5_printFree_24.2.2.2.2.2.2.1
theorem dX5_printFree_52 : decode cX5_printFree 52 = .ok (.aload_n 0, 1) := eX5_printFree_24.2.2.2.2.2.2.2
theorem eX5_printFree_32 : (decode cX5_printFree 53 = .ok (.getfield 25, 3)) ∧ (decode cX5_printFree 56 = .ok (.aload_n 0, 1)) ∧ (decode cX5_printFree 57 = .ok (.getfield 33, 3)) ∧ (decode cX5_printFree 60 = .ok (.getfield 77, 3)) ∧ (decode cX5_printFree 63 = .ok (.iload 4, 2)) ∧ (decode cX5_printFree 65 = .ok (.iaload, 1)) ∧ (decode cX5_printFree 66 = .ok (.aload_n 0, 1)) ∧ (decode cX5_printFree 67 = .ok (.getfield 33, 3)) := by decide +kernel
theorem dX5_printFree_53 : decode cX5_printFree 53 = .ok (.getfield 25, 3) := eX5_printFree_32.1
theorem dX5_printFree_56 : decode cX5_printFree 56 = .ok (.aload_n 0, 1) := eX5_printFree_32.2.1
theorem dX5_printFree_57 : decode cX5_printFree 57 = .ok (.getfield 33, 3) := eX5_printFree_32.2.2.1
theorem dX5_printFree_60 : decode cX5_printFree 60 = .ok (.getfield 77, 3) := eX5_printFree_32.2.2.2.1
theorem dX5_printFree_63 : decode cX5_printFree 63 = .ok (.iload 4, 2) := eX5_printFree_32.2.2.2.2.1
theorem dX5_printFree_65 : decode cX5_printFree 65 = .ok (.iaload, 1) := eX5_printFree_32.2.2.2.2.2.1
theorem dX5_printFree_66 : decode cX5_printFree 66 = .ok (.aload_n 0, 1) := eX5_printFree_32.2.2.2.2.2.2.1
theorem dX5_printFree_67 : decode cX5_printFree 67 = .ok (.getfield 33, 3) := eX5_printFree_32.2.2.2.2.2.2.2
theorem eX5_printFree_40 : (decode cX5_printFree 70 = .ok (.getfield 77, 3)) ∧ (decode cX5_printFree 73 = .ok (.iload_n 2, 1)) ∧ (decode cX5_printFree 74 = .ok (.iaload, 1)) ∧ (decode cX5_printFree 75 = .ok (.invokevirtual 85, 3)) ∧ (decode cX5_printFree 78 = .ok (.iadd, 1)) ∧ (decode cX5_printFree 79 = .ok (.ireturn, 1)) ∧ (decode cX5_printFree 80 = .ok (.iinc 3 (-1), 3)) ∧ (decode cX5_printFree 83 = .ok (.goto (-72), 3)) := by decide +kernel
theorem dX5_printFree_70 : decode cX5_printFree 70 = .ok (.getfield 77, 3) := eX5_printFree_40.1
theorem dX5_printFree_73 : decode cX5_printFree 73 = .ok (.iload_n 2, 1) := eX5_printFree_40.2.1
theorem dX5_printFree_74 : decode cX5_printFree 74 = .ok (.iaload, 1) := eX5_printFree_40.2.2.1
theorem dX5_printFree_75 : decode cX5_printFree 75 = .ok (.invokevirtual 85, 3) := eX5_printFree_40.2.2.2.1
theorem dX5_printFree_78 : decode cX5_printFree 78 = .ok (.iadd, 1) := eX5_printFree_40.2.2.2.2.1
theorem dX5_printFree_79 : decode cX5_printFree 79 = .ok (.ireturn, 1) := eX5_printFree_40.2.2.2.2.2.1
theorem dX5_printFree_80 : decode cX5_printFree 80 = .ok (.iinc 3 (-1), 3) := eX5_printFree_40.2.2.2.2.2.2.1
theorem dX5_printFree_83 : decode cX5_printFree 83 = .ok (.goto (-72), 3) := eX5_printFree_40.2.2.2.2.2.2.2
theorem eX5_printFree_48 : (decode cX5_printFree 86 = .ok (.iconst 0, 1)) ∧ (decode cX5_printFree 87 = .ok (.ireturn, 1)) := by decide +kernel
theorem dX5_printFree_86 : decode cX5_printFree 86 = .ok (.iconst 0, 1) := eX5_printFree_48.1
theorem dX5_printFree_87 : decode cX5_printFree 87 = .ok (.ireturn, 1) := eX5_printFree_48.2
theorem eX5_step_0 : (decode cX5_step 0 = .ok (.aload_n 0, 1)) ∧ (decode cX5_step 1 = .ok (.getfield 15, 3)) ∧ (decode cX5_step 4 = .ok (.iload_n 1, 1)) ∧ (decode cX5_step 5 = .ok (.iaload, 1)) ∧ (decode cX5_step 6 = .ok (.aload_n 0, 1)) ∧ (decode cX5_step 7 = .ok (.getfield 33, 3)) ∧ (decode cX5_step 10 = .ok (.getfield 54, 3)) ∧ (decode cX5_step 13 = .ok (.iload_n 1, 1)) := by decide +kernel
theorem dX5_step_0 : decode cX5_step 0 = .ok (.aload_n 0, 1) := eX5_step_0.1
theorem dX5_step_1 : decode cX5_step 1 = .ok (.getfield 15, 3) := eX5_step_0.2.1
theorem dX5_step_4 : decode cX5_step 4 = .ok (.iload_n 1, 1) := eX5_step_0.2.2.1
theorem dX5_step_5 : decode cX5_step 5 = .ok (.iaload, 1) := eX5_step_0.2.2.2.1
theorem dX5_step_6 : decode cX5_step 6 = .ok (.aload_n 0, 1) := eX5_step_0.2.2.2.2.1
theorem dX5_step_7 : decode cX5_step 7 = .ok (.getfield 33, 3) := eX5_step_0.2.2.2.2.2.1
theorem dX5_step_10 : decode cX5_step 10 = .ok (.getfield 54, 3) := eX5_step_0.2.2.2.2.2.2.1
theorem dX5_step_13 : decode cX5_step 13 = .ok (.iload_n 1, 1) := eX5_step_0.2.2.2.2.2.2.2
theorem eX5_step_8 : (decode cX5_step 14 = .ok (.iaload, 1)) ∧ (decode cX5_step 15 = .ok (.isub, 1)) ∧ (decode cX5_step 16 = .ok (.istore_n 3, 1)) ∧ (decode cX5_step 17 = .ok (.aload_n 0, 1)) ∧ (decode cX5_step 18 = .ok (.getfield 25, 3)) ∧ (decode cX5_step 21 = .ok (.getfield 88, 3)) ∧ (decode cX5_step 24 = .ok (.aload_n 0, 1)) ∧ (decode cX5_step 25 = .ok (.getfield 33, 3)) := by decide +kernel
theorem dX5_step_14 : decode cX5_step 14 = .ok (.iaload, 1) := eX5_step_8.1
theorem dX5_step_15 : decode cX5_step 15 = .ok (.isub, 1) := eX5_step_8.2.1
theorem dX5_step_16 : decode cX5_step 16 = .ok (.istore_n 3, 1) := eX5_step_8.2.2.1
theorem dX5_step_17 : decode cX5_step 17 = .ok (.aload_n 0, 1) := eX5_step_8.2.2.2.1
theorem dX5_step_18 : decode cX5_step 18 = .ok (.getfield 25, 3) := eX5_step_8.2.2.2.2.1
theorem dX5_step_21 : decode cX5_step 21 = .ok (.getfield 88, 3) := eX5_step_8.2.2.2.2.2.1
theorem dX5_step_24 : decode cX5_step 24 = .ok (.aload_n 0, 1) := eX5_step_8.2.2.2.2.2.2.1
theorem dX5_step_25 : decode cX5_step 25 = .ok (.getfield 33, 3) := eX5_step_8.2.2.2.2.2.2.2
theorem eX5_step_16 : (decode cX5_step 28 = .ok (.getfield 77, 3)) ∧ (decode cX5_step 31 = .ok (.iload_n 1, 1)) ∧ (decode cX5_step 32 = .ok (.iaload, 1)) ∧ (decode cX5_step 33 = .ok (.iaload, 1)) ∧ (decode cX5_step 34 = .ok (.istore 4, 2)) ∧ (decode cX5_step 36 = .ok (.aload_n 0, 1)) ∧ (decode cX5_step 37 = .ok (.iconst 0, 1)) ∧ (decode cX5_step 38 = .ok (.putfield 91, 3)) := by decide +kernel
theorem dX5_step_28 : decode cX5_step 28 = .ok (.getfield 77, 3) := eX5_step_16.1
theorem dX5_step_31 : decode cX5_step 31 = .ok (.iload_n 1, 1) := eX5_step_16.2.1
theorem dX5_step_32 : decode cX5_step 32 = .ok (.iaload, 1) := eX5_step_16.2.2.1
theorem dX5_step_33 : decode cX5_step 33 = .ok (.iaload, 1) := eX5_step_16.2.2.2.1
theorem dX5_step_34 : decode cX5_step 34 = .ok (.istore 4, 2) := eX5_step_16.2.2.2.2.1
theorem dX5_step_36 : decode cX5_step 36 = .ok (.aload_n 0, 1) := eX5_step_16.2.2.2.2.2.1
theorem dX5_step_37 : decode cX5_step 37 = .ok (.iconst 0, 1) := eX5_step_16.2.2.2.2.2.2.1
theorem dX5_step_38 : decode cX5_step 38 = .ok (.putfield 91, 3) := eX5_step_16.2.2.2.2.2.2.2
theorem eX5_step_24 : (decode cX5_step 41 = .ok (.aload_n 0, 1)) ∧ (decode cX5_step 42 = .ok (.iconst 0, 1)) ∧ (decode cX5_step 43 = .ok (.putfield 94, 3)) ∧ (decode cX5_step 46 = .ok (.bipush (-40), 2)) ∧ (decode cX5_step 48 = .ok (.istore 5, 2)) ∧ (decode cX5_step 50 = .ok (.iload 5, 2)) ∧ (decode cX5_step 52 = .ok (.iload_n 2, 1)) ∧ (decode cX5_step 53 = .ok (.if_icmp .gt 106, 3)) := by decide +kernel
theorem dX5_step_41 : decode cX5_step 41 = .ok (.aload_n 0, 1) := eX5_step_24.1
theorem dX5_step_42 : decode cX5_step 42 = .ok (.iconst 0, 1) := eX5_step_24.2.1
theorem dX5_step_43 : decode cX5_step 43 = .ok (.putfield 94, 3) := eX5_step_24.2.2.1
theorem dX5_step_46 : decode cX5_step 46 = .ok (.bipush (-40), 2) := eX5_step_24.2.2.2.1
theorem dX5_step_48 : decode cX5_step 48 = .ok (.istore 5, 2) := eX5_step_24.2.2.2.2.1
theorem dX5_step_50 : decode cX5_step 50 = .ok (.iload 5, 2) := eX5_step_24.2.2.2.2.2.1
theorem dX5_step_52 : decode cX5_step 52 = .ok (.iload_n 2, 1) := eX5_step_24.2.2.2.2.2.2.1
theorem dX5_step_53 : decode cX5_step 53 = .ok (.if_icmp .gt 106, 3) := eX5_step_24.2.2.2.2.2.2.2
theorem eX5_step_32 : (decode cX5_step 56 = .ok (.iload 5, 2)) ∧ (decode cX5_step 58 = .ok (.bipush 10, 2)) ∧ (decode cX5_step 60 = .ok (.if_icmp .gt 30, 3)) ∧ (decode cX5_step 63 = .ok (.aload_n 0, 1)) ∧ (decode cX5_step 64 = .ok (.dup, 1)) ∧ (decode cX5_step 65 = .ok (.getfield 94, 3)) ∧ (decode cX5_step 68 = .ok (.aload_n 0, 1)) ∧ (decode cX5_step 69 = .ok (.getfield 33, 3)) := by decide +kernel
theorem dX5_step_56 : decode cX5_step 56 = .ok (.iload 5, 2) := eX5_step_32.1
theorem dX5_step_58 : decode cX5_step 58 = .ok (.bipush 10, 2) := eX5_step_32.2.1
theorem dX5_step_60 : decode cX5_step 60 = .ok (.if_icmp .gt 30, 3) := eX5_step_32.2.2.1
theorem dX5_step_63 : decode cX5_step 63 = .ok (.aload_n 0, 1) := eX5_step_32.2.2.2.1
theorem dX5_step_64 : decode cX5_step 64 = .ok (.dup, 1) := eX5_step_32.2.2.2.2.1
theorem dX5_step_65 : decode cX5_step 65 = .ok (.getfield 94, 3) := eX5_step_32.2.2.2.2.2.1
theorem dX5_step_68 : decode cX5_step 68 = .ok (.aload_n 0, 1) := eX5_step_32.2.2.2.2.2.2.1
theorem dX5_step_69 : decode cX5_step 69 = .ok (.getfield 33, 3) := eX5_step_32.2.2.2.2.2.2.2
theorem eX5_step_40 : (decode cX5_step 72 = .ok (.getfield 97, 3)) ∧ (decode cX5_step 75 = .ok (.iload_n 1, 1)) ∧ (decode cX5_step 76 = .ok (.bipush 51, 2)) ∧ (decode cX5_step 78 = .ok (.imul, 1)) ∧ (decode cX5_step 79 = .ok (.iload 5, 2)) ∧ (decode cX5_step 81 = .ok (.iadd, 1)) ∧ (decode cX5_step 82 = .ok (.bipush (-40), 2)) ∧ (decode cX5_step 84 = .ok (.isub, 1)) := by decide +kernel
theorem dX5_step_72 : decode cX5_step 72 = .ok (.getfield 97, 3) := eX5_step_40.1
theorem dX5_step_75 : decode cX5_step 75 = .ok (.iload_n 1, 1) := eX5_step_40.2.1
theorem dX5_step_76 : decode cX5_step 76 = .ok (.bipush 51, 2) := eX5_step_40.2.2.1
theorem dX5_step_78 : decode cX5_step 78 = .ok (.imul, 1) := eX5_step_40.2.2.2.1
theorem dX5_step_79 : decode cX5_step 79 = .ok (.iload 5, 2) := eX5_step_40.2.2.2.2.1
theorem dX5_step_81 : decode cX5_step 81 = .ok (.iadd, 1) := eX5_step_40.2.2.2.2.2.1
theorem dX5_step_82 : decode cX5_step 82 = .ok (.bipush (-40), 2) := eX5_step_40.2.2.2.2.2.2.1
theorem dX5_step_84 : decode cX5_step 84 = .ok (.isub, 1) := eX5_step_40.2.2.2.2.2.2.2
theorem eX5_step_48 : (decode cX5_step 85 = .ok (.iaload, 1)) ∧ (decode cX5_step 86 = .ok (.iadd, 1)) ∧ (decode cX5_step 87 = .ok (.putfield 94, 3)) ∧ (decode cX5_step 90 = .ok (.iload 5, 2)) ∧ (decode cX5_step 92 = .ok (.iload_n 3, 1)) ∧ (decode cX5_step 93 = .ok (.bipush 30, 2)) ∧ (decode cX5_step 95 = .ok (.isub, 1)) ∧ (decode cX5_step 96 = .ok (.if_icmp .lt 57, 3)) := by decide +kernel
theorem dX5_step_85 : decode cX5_step 85 = .ok (.iaload, 1) := eX5_step_48.1
theorem dX5_step_86 : decode cX5_step 86 = .ok (.iadd, 1) := eX5_step_48.2.1
theorem dX5_step_87 : decode cX5_step 87 = .ok (.putfield 94, 3) := eX5_step_48.2.2.1
theorem dX5_step_90 : decode cX5_step 90 = .ok (.iload 5, 2) := eX5_step_48.2.2.2.1
theorem dX5_step_92 : decode cX5_step 92 = .ok (.iload_n 3, 1) := eX5_step_48.2.2.2.2.1
theorem dX5_step_93 : decode cX5_step 93 = .ok (.bipush 30, 2) := eX5_step_48.2.2.2.2.2.1
theorem dX5_step_95 : decode cX5_step 95 = .ok (.isub, 1) := eX5_step_48.2.2.2.2.2.2.1
theorem dX5_step_96 : decode cX5_step 96 = .ok (.if_icmp .lt 57, 3) := eX5_step_48.2.2.2.2.2.2.2
theorem eX5_step_56 : (decode cX5_step 99 = .ok (.iload 5, 2)) ∧ (decode cX5_step 101 = .ok (.iload_n 3, 1)) ∧ (decode cX5_step 102 = .ok (.bipush 10, 2)) ∧ (decode cX5_step 104 = .ok (.iadd, 1)) ∧ (decode cX5_step 105 = .ok (.if_icmp .gt 48, 3)) ∧ (decode cX5_step 108 = .ok (.aload_n 0, 1)) ∧ (decode cX5_step 109 = .ok (.getfield 21, 3)) ∧ (decode cX5_step 112 = .ok (.aload_n 0, 1)) := by decide +kernel
theorem dX5_step_99 : decode cX5_step 99 = .ok (.iload 5, 2) := eX5_step_56.1
theorem dX5_step_101 : decode cX5_step 101 = .ok (.iload_n 3, 1) := eX5_step_56.2.1
theorem dX5_step_102 : decode cX5_step 102 = .ok (.bipush 10, 2) := eX5_step_56.2.2.1
theorem dX5_step_104 : decode cX5_step 104 = .ok (.iadd, 1) := eX5_step_56.2.2.2.1
theorem dX5_step_105 : decode cX5_step 105 = .ok (.if_icmp .gt 48, 3) := eX5_step_56.2.2.2.2.1
theorem dX5_step_108 : decode cX5_step 108 = .ok (.aload_n 0, 1) := eX5_step_56.2.2.2.2.2.1
theorem dX5_step_109 : decode cX5_step 109 = .ok (.getfield 21, 3) := eX5_step_56.2.2.2.2.2.2.1
theorem dX5_step_112 : decode cX5_step 112 = .ok (.aload_n 0, 1) := eX5_step_56.2.2.2.2.2.2.2
theorem eX5_step_64 : (decode cX5_step 113 = .ok (.getfield 94, 3)) ∧ (decode cX5_step 116 = .ok (.invokestatic 100, 3)) ∧ (decode cX5_step 119 = .ok (.iload 4, 2)) ∧ (decode cX5_step 121 = .ok (.aload_n 0, 1)) ∧ (decode cX5_step 122 = .ok (.getfield 91, 3)) ∧ (decode cX5_step 125 = .ok (.isub, 1)) ∧ (decode cX5_step 126 = .ok (.invokestatic 100, 3)) ∧ (decode cX5_step 129 = .ok (.istore 6, 2)) := by decide +kernel
theorem dX5_step_113 : decode cX5_step 113 = .ok (.getfield 94, 3) := eX5_step_64.1
theorem dX5_step_116 : decode cX5_step 116 = .ok (.invokestatic 100, 3) := eX5_step_64.2.1
theorem dX5_step_119 : decode cX5_step 119 = .ok (.iload 4, 2) := eX5_step_64.2.2.1
theorem dX5_step_121 : decode cX5_step 121 = .ok (.aload_n 0, 1) := eX5_step_64.2.2.2.1
theorem dX5_step_122 : decode cX5_step 122 = .ok (.getfield 91, 3) := eX5_step_64.2.2.2.2.1
theorem dX5_step_125 : decode cX5_step 125 = .ok (.isub, 1) := eX5_step_64.2.2.2.2.2.1
theorem dX5_step_126 : decode cX5_step 126 = .ok (.invokestatic 100, 3) := eX5_step_64.2.2.2.2.2.2.1
theorem dX5_step_129 : decode cX5_step 129 = .ok (.istore 6, 2) := eX5_step_64.2.2.2.2.2.2.2
theorem eX5_step_72 : (decode cX5_step 131 = .ok (.aload_n 0, 1)) ∧ (decode cX5_step 132 = .ok (.dup, 1)) ∧ (decode cX5_step 133 = .ok (.getfield 91, 3)) ∧ (decode cX5_step 136 = .ok (.iload 6, 2)) ∧ (decode cX5_step 138 = .ok (.iadd, 1)) ∧ (decode cX5_step 139 = .ok (.putfield 91, 3)) ∧ (decode cX5_step 142 = .ok (.aload_n 0, 1)) ∧ (decode cX5_step 143 = .ok (.dup, 1)) := by decide +kernel
theorem dX5_step_131 : decode cX5_step 131 = .ok (.aload_n 0, 1) := eX5_step_72.1
theorem dX5_step_132 : decode cX5_step 132 = .ok (.dup, 1) := eX5_step_72.2.1
theorem dX5_step_133 : decode cX5_step 133 = .ok (.getfield 91, 3) := eX5_step_72.2.2.1
theorem dX5_step_136 : decode cX5_step 136 = .ok (.iload 6, 2) := eX5_step_72.2.2.2.1
theorem dX5_step_138 : decode cX5_step 138 = .ok (.iadd, 1) := eX5_step_72.2.2.2.2.1
theorem dX5_step_139 : decode cX5_step 139 = .ok (.putfield 91, 3) := eX5_step_72.2.2.2.2.2.1
theorem dX5_step_142 : decode cX5_step 142 = .ok (.aload_n 0, 1) := eX5_step_72.2.2.2.2.2.2.1
theorem dX5_step_143 : decode cX5_step 143 = .ok (.dup, 1) := eX5_step_72.2.2.2.2.2.2.2
theorem eX5_step_80 : (decode cX5_step 144 = .ok (.getfield 94, 3)) ∧ (decode cX5_step 147 = .ok (.iload 6, 2)) ∧ (decode cX5_step 149 = .ok (.isub, 1)) ∧ (decode cX5_step 150 = .ok (.putfield 94, 3)) ∧ (decode cX5_step 153 = .ok (.iinc 5 1, 3)) ∧ (decode cX5_step 156 = .ok (.goto (-106), 3)) ∧ (decode cX5_step 159 = .ok (.return_, 1)) := by decide +kernel
theorem dX5_step_144 : decode cX5_step 144 = .ok (.getfield 94, 3) := eX5_step_80.1
theorem dX5_step_147 : decode cX5_step 147 = .ok (.iload 6, 2) := eX5_step_80.2.1
theorem dX5_step_149 : decode cX5_step 149 = .ok (.isub, 1) := eX5_step_80.2.2.1
theorem dX5_step_150 : decode cX5_step 150 = .ok (.putfield 94, 3) := eX5_step_80.2.2.2.1
theorem dX5_step_153 : decode cX5_step 153 = .ok (.iinc 5 1, 3) := eX5_step_80.2.2.2.2.1
theorem dX5_step_156 : decode cX5_step 156 = .ok (.goto (-106), 3) := eX5_step_80.2.2.2.2.2.1
theorem dX5_step_159 : decode cX5_step 159 = .ok (.return_, 1) := eX5_step_80.2.2.2.2.2.2
theorem eX6_init_0 : (decode cX6_init 0 = .ok (.aload_n 0, 1)) ∧ (decode cX6_init 1 = .ok (.invokespecial 3, 3)) ∧ (decode cX6_init 4 = .ok (.aload_n 0, 1)) ∧ (decode cX6_init 5 = .ok (.sipush 300, 3)) ∧ (decode cX6_init 8 = .ok (.newarray .int, 2)) ∧ (decode cX6_init 10 = .ok (.putfield 11, 3)) ∧ (decode cX6_init 13 = .ok (.aload_n 0, 1)) ∧ (decode cX6_init 14 = .ok (.new 15, 3)) := by decide +kernel
theorem dX6_init_0 : decode cX6_init 0 = .ok (.aload_n 0, 1) := eX6_init_0.1
theorem dX6_init_1 : decode cX6_init 1 = .ok (.invokespecial 3, 3) := eX6_init_0.2.1
theorem dX6_init_4 : decode cX6_init 4 = .ok (.aload_n 0, 1) := eX6_init_0.2.2.1
theorem dX6_init_5 : decode cX6_init 5 = .ok (.sipush 300, 3) := eX6_init_0.2.2.2.1
theorem dX6_init_8 : decode cX6_init 8 = .ok (.newarray .int, 2) := eX6_init_0.2.2.2.2.1
theorem dX6_init_10 : decode cX6_init 10 = .ok (.putfield 11, 3) := eX6_init_0.2.2.2.2.2.1
theorem dX6_init_13 : decode cX6_init 13 = .ok (.aload_n 0, 1) := eX6_init_0.2.2.2.2.2.2.1
theorem dX6_init_14 : decode cX6_init 14 = .ok (.new 15, 3) := eX6_init_0.2.2.2.2.2.2.2
theorem eX6_init_8 : (decode cX6_init 17 = .ok (.dup, 1)) ∧ (decode cX6_init 18 = .ok (.invokespecial 17, 3)) ∧ (decode cX6_init 21 = .ok (.putfield 18, 3)) ∧ (decode cX6_init 24 = .ok (.aload_n 0, 1)) ∧ (decode cX6_init 25 = .ok (.iconst 0, 1)) ∧ (decode cX6_init 26 = .ok (.putfield 22, 3)) ∧ (decode cX6_init 29 = .ok (.aload_n 0, 1)) ∧ (decode cX6_init 30 = .ok (.iconst (-1), 1)) := by decide +kernel
theorem dX6_init_17 : decode cX6_init 17 = .ok (.dup, 1) := eX6_init_8.1
theorem dX6_init_18 : decode cX6_init 18 = .ok (.invokespecial 17, 3) := eX6_init_8.2.1
theorem dX6_init_21 : decode cX6_init 21 = .ok (.putfield 18, 3) := eX6_init_8.2.2.1
theorem dX6_init_24 : decode cX6_init 24 = .ok (.aload_n 0, 1) := eX6_init_8.2.2.2.1
theorem dX6_init_25 : decode cX6_init 25 = .ok (.iconst 0, 1) := eX6_init_8.2.2.2.2.1
theorem dX6_init_26 : decode cX6_init 26 = .ok (.putfield 22, 3) := eX6_init_8.2.2.2.2.2.1
theorem dX6_init_29 : decode cX6_init 29 = .ok (.aload_n 0, 1) := eX6_init_8.2.2.2.2.2.2.1
theorem dX6_init_30 : decode cX6_init 30 = .ok (.iconst (-1), 1) := eX6_init_8.2.2.2.2.2.2.2
theorem eX6_init_16 : (decode cX6_init 31 = .ok (.putfield 26, 3)) ∧ (decode cX6_init 34 = .ok (.return_, 1)) := by decide +kernel
theorem dX6_init_31 : decode cX6_init 31 = .ok (.putfield 26, 3) := eX6_init_16.1
theorem dX6_init_34 : decode cX6_init 34 = .ok (.return_, 1) := eX6_init_16.2
theorem eX6_hasRoom_0 : (decode cX6_hasRoom 0 = .ok (.aload_n 0, 1)) ∧ (decode cX6_hasRoom 1 = .ok (.getfield 22, 3)) ∧ (decode cX6_hasRoom 4 = .ok (.iload_n 1, 1)) ∧ (decode cX6_hasRoom 5 = .ok (.iadd, 1)) ∧ (decode cX6_hasRoom 6 = .ok (.sipush 300, 3)) ∧ (decode cX6_hasRoom 9 = .ok (.if_icmp .gt 7, 3)) ∧ (decode cX6_hasRoom 12 = .ok (.iconst 1, 1)) ∧ (decode cX6_hasRoom 13 = .ok (.goto 4, 3)) := by decide +kernel
theorem dX6_hasRoom_0 : decode cX6_hasRoom 0 = .ok (.aload_n 0, 1) := eX6_hasRoom_0.1
theorem dX6_hasRoom_1 : decode cX6_hasRoom 1 = .ok (.getfield 22, 3) := eX6_hasRoom_0.2.1
theorem dX6_hasRoom_4 : decode cX6_hasRoom 4 = .ok (.iload_n 1, 1) := eX6_hasRoom_0.2.2.1
theorem dX6_hasRoom_5 : decode cX6_hasRoom 5 = .ok (.iadd, 1) := eX6_hasRoom_0.2.2.2.1
theorem dX6_hasRoom_6 : decode cX6_hasRoom 6 = .ok (.sipush 300, 3) := eX6_hasRoom_0.2.2.2.2.1
theorem dX6_hasRoom_9 : decode cX6_hasRoom 9 = .ok (.if_icmp .gt 7, 3) := eX6_hasRoom_0.2.2.2.2.2.1
theorem dX6_hasRoom_12 : decode cX6_hasRoom 12 = .ok (.iconst 1, 1) := eX6_hasRoom_0.2.2.2.2.2.2.1
theorem dX6_hasRoom_13 : decode cX6_hasRoom 13 = .ok (.goto 4, 3) := eX6_hasRoom_0.2.2.2.2.2.2.2
theorem eX6_hasRoom_8 : (decode cX6_hasRoom 16 = .ok (.iconst 0, 1)) ∧ (decode cX6_hasRoom 17 = .ok (.ireturn, 1)) := by decide +kernel
theorem dX6_hasRoom_16 : decode cX6_hasRoom 16 = .ok (.iconst 0, 1) := eX6_hasRoom_8.1
theorem dX6_hasRoom_17 : decode cX6_hasRoom 17 = .ok (.ireturn, 1) := eX6_hasRoom_8.2
theorem eX6_append_0 : (decode cX6_append 0 = .ok (.bipush 24, 2)) ∧ (decode cX6_append 2 = .ok (.istore_n 2, 1)) ∧ (decode cX6_append 3 = .ok (.iload_n 2, 1)) ∧ (decode cX6_append 4 = .ok (.ifCond .lt 45, 3)) ∧ (decode cX6_append 7 = .ok (.aload_n 0, 1)) ∧ (decode cX6_append 8 = .ok (.getfield 22, 3)) ∧ (decode cX6_append 11 = .ok (.sipush 300, 3)) ∧ (decode cX6_append 14 = .ok (.if_icmp .ge 29, 3)) := by decide +kernel
theorem dX6_append_0 : decode cX6_append 0 = .ok (.bipush 24, 2) := eX6_append_0.1
theorem dX6_append_2 : decode cX6_append 2 = .ok (.istore_n 2, 1) := eX6_append_0.2.1
theorem dX6_append_3 : decode cX6_append 3 = .ok (.iload_n 2, 1) := eX6_append_0.2.2.1
theorem dX6_append_4 : decode cX6_append 4 = .ok (.ifCond .lt 45, 3) := eX6_append_0.2.2.2.1
theorem dX6_append_7 : decode cX6_append 7 = .ok (.aload_n 0, 1) := eX6_append_0.2.2.2.2.1
theorem dX6_append_8 : decode cX6_append 8 = .ok (.getfield 22, 3) := eX6_append_0.2.2.2.2.2.1
theorem dX6_append_11 : decode cX6_append 11 = .ok (.sipush 300, 3) := eX6_append_0.2.2.2.2.2.2.1
theorem dX6_append_14 : decode cX6_append 14 = .ok (.if_icmp .ge 29, 3) := eX6_append_0.2.2.2.2.2.2.2
theorem eX6_append_8 : (decode cX6_append 17 = .ok (.aload_n 0, 1)) ∧ (decode cX6_append 18 = .ok (.getfield 11, 3)) ∧ (decode cX6_append 21 = .ok (.aload_n 0, 1)) ∧ (decode cX6_append 22 = .ok (.getfield 22, 3)) ∧ (decode cX6_append 25 = .ok (.iload_n 1, 1)) ∧ (decode cX6_append 26 = .ok (.iload_n 2, 1)) ∧ (decode cX6_append 27 = .ok (.iushr, 1)) ∧ (decode cX6_append 28 = .ok (.sipush 255, 3)) := by decide +kernel
theorem dX6_append_17 : decode cX6_append 17 = .ok (.aload_n 0, 1) := eX6_append_8.1
theorem dX6_append_18 : decode cX6_append 18 = .ok (.getfield 11, 3) := eX6_append_8.2.1
theorem dX6_append_21 : decode cX6_append 21 = .ok (.aload_n 0, 1) := eX6_append_8.2.2.1
theorem dX6_append_22 : decode cX6_append 22 = .ok (.getfield 22, 3) := eX6_append_8.2.2.2.1
theorem dX6_append_25 : decode cX6_append 25 = .ok (.iload_n 1, 1) := eX6_append_8.2.2.2.2.1
theorem dX6_append_26 : decode cX6_append 26 = .ok (.iload_n 2, 1) := eX6_append_8.2.2.2.2.2.1
theorem dX6_append_27 : decode cX6_append 27 = .ok (.iushr, 1) := eX6_append_8.2.2.2.2.2.2.1
theorem dX6_append_28 : decode cX6_append 28 = .ok (.sipush 255, 3) := eX6_append_8.2.2.2.2.2.2.2
theorem eX6_append_16 : (decode cX6_append 31 = .ok (.iand, 1)) ∧ (decode cX6_append 32 = .ok (.iastore, 1)) ∧ (decode cX6_append 33 = .ok (.aload_n 0, 1)) ∧ (decode cX6_append 34 = .ok (.dup, 1)) ∧ (decode cX6_append 35 = .ok (.getfield 22, 3)) ∧ (decode cX6_append 38 = .ok (.iconst 1, 1)) ∧ (decode cX6_append 39 = .ok (.iadd, 1)) ∧ (decode cX6_append 40 = .ok (.putfield 22, 3)) := by decide +kernel
theorem dX6_append_31 : decode cX6_append 31 = .ok (.iand, 1) := eX6_append_16.1
theorem dX6_append_32 : decode cX6_append 32 = .ok (.iastore, 1) := eX6_append_16.2.1
theorem dX6_append_33 : decode cX6_append 33 = .ok (.aload_n 0, 1) := eX6_append_16.2.2.1
theorem dX6_append_34 : decode cX6_append 34 = .ok (.dup, 1) := eX6_append_16.2.2.2.1
theorem dX6_append_35 : decode cX6_append 35 = .ok (.getfield 22, 3) := eX6_append_16.2.2.2.2.1
theorem dX6_append_38 : decode cX6_append 38 = .ok (.iconst 1, 1) := eX6_append_16.2.2.2.2.2.1
theorem dX6_append_39 : decode cX6_append 39 = .ok (.iadd, 1) := eX6_append_16.2.2.2.2.2.2.1
theorem dX6_append_40 : decode cX6_append 40 = .ok (.putfield 22, 3) := eX6_append_16.2.2.2.2.2.2.2
theorem eX6_append_24 : (decode cX6_append 43 = .ok (.iinc 2 (-8), 3)) ∧ (decode cX6_append 46 = .ok (.goto (-43), 3)) ∧ (decode cX6_append 49 = .ok (.return_, 1)) := by decide +kernel
theorem dX6_append_43 : decode cX6_append 43 = .ok (.iinc 2 (-8), 3) := eX6_append_24.1
theorem dX6_append_46 : decode cX6_append 46 = .ok (.goto (-43), 3) := eX6_append_24.2.1
theorem dX6_append_49 : decode cX6_append 49 = .ok (.return_, 1) := eX6_append_24.2.2
theorem eX6_read_0 : (decode cX6_read 0 = .ok (.aload_n 0, 1)) ∧ (decode cX6_read 1 = .ok (.getfield 18, 3)) ∧ (decode cX6_read 4 = .ok (.invokevirtual 29, 3)) ∧ (decode cX6_read 7 = .ok (.aload_n 0, 1)) ∧ (decode cX6_read 8 = .ok (.iconst 0, 1)) ∧ (decode cX6_read 9 = .ok (.putfield 32, 3)) ∧ (decode cX6_read 12 = .ok (.aload_n 0, 1)) ∧ (decode cX6_read 13 = .ok (.invokevirtual 35, 3)) := by decide +kernel
theorem dX6_read_0 : decode cX6_read 0 = .ok (.aload_n 0, 1) := eX6_read_0.1
theorem dX6_read_1 : decode cX6_read 1 = .ok (.getfield 18, 3) := eX6_read_0.2.1
theorem dX6_read_4 : decode cX6_read 4 = .ok (.invokevirtual 29, 3) := eX6_read_0.2.2.1
theorem dX6_read_7 : decode cX6_read 7 = .ok (.aload_n 0, 1) := eX6_read_0.2.2.2.1
theorem dX6_read_8 : decode cX6_read 8 = .ok (.iconst 0, 1) := eX6_read_0.2.2.2.2.1
theorem dX6_read_9 : decode cX6_read 9 = .ok (.putfield 32, 3) := eX6_read_0.2.2.2.2.2.1
theorem dX6_read_12 : decode cX6_read 12 = .ok (.aload_n 0, 1) := eX6_read_0.2.2.2.2.2.2.1
theorem dX6_read_13 : decode cX6_read 13 = .ok (.invokevirtual 35, 3) := eX6_read_0.2.2.2.2.2.2.2
theorem eX6_read_8 : (decode cX6_read 16 = .ok (.aload_n 0, 1)) ∧ (decode cX6_read 17 = .ok (.ldc 38, 2)) ∧ (decode cX6_read 19 = .ok (.invokevirtual 40, 3)) ∧ (decode cX6_read 22 = .ok (.ifCond .eq 67, 3)) ∧ (decode cX6_read 25 = .ok (.aload_n 0, 1)) ∧ (decode cX6_read 26 = .ok (.iconst 0, 1)) ∧ (decode cX6_read 27 = .ok (.invokevirtual 44, 3)) ∧ (decode cX6_read 30 = .ok (.ifCond .eq 59, 3)) := by decide +kernel
theorem dX6_read_16 : decode cX6_read 16 = .ok (.aload_n 0, 1) := eX6_read_8.1
theorem dX6_read_17 : decode cX6_read 17 = .ok (.ldc 38, 2) := eX6_read_8.2.1
theorem dX6_read_19 : decode cX6_read 19 = .ok (.invokevirtual 40, 3) := eX6_read_8.2.2.1
theorem dX6_read_22 : decode cX6_read 22 = .ok (.ifCond .eq 67, 3) := eX6_read_8.2.2.2.1
theorem dX6_read_25 : decode cX6_read 25 = .ok (.aload_n 0, 1) := eX6_read_8.2.2.2.2.1
theorem dX6_read_26 : decode cX6_read 26 = .ok (.iconst 0, 1) := eX6_read_8.2.2.2.2.2.1
theorem dX6_read_27 : decode cX6_read 27 = .ok (.invokevirtual 44, 3) := eX6_read_8.2.2.2.2.2.2.1
theorem dX6_read_30 : decode cX6_read 30 = .ok (.ifCond .eq 59, 3) := eX6_read_8.2.2.2.2.2.2.2
theorem eX6_read_16 : (decode cX6_read 33 = .ok (.aload_n 0, 1)) ∧ (decode cX6_read 34 = .ok (.bipush 59, 2)) ∧ (decode cX6_read 36 = .ok (.invokevirtual 48, 3)) ∧ (decode cX6_read 39 = .ok (.ifCond .eq 50, 3)) ∧ (decode cX6_read 42 = .ok (.aload_n 0, 1)) ∧ (decode cX6_read 43 = .ok (.invokevirtual 52, 3)) ∧ (decode cX6_read 46 = .ok (.ifCond .eq 43, 3)) ∧ (decode cX6_read 49 = .ok (.aload_n 0, 1)) := by decide +kernel
theorem dX6_read_33 : decode cX6_read 33 = .ok (.aload_n 0, 1) := eX6_read_16.1
theorem dX6_read_34 : decode cX6_read 34 = .ok (.bipush 59, 2) := eX6_read_16.2.1
theorem dX6_read_36 : decode cX6_read 36 = .ok (.invokevirtual 48, 3) := eX6_read_16.2.2.1
theorem dX6_read_39 : decode cX6_read 39 = .ok (.ifCond .eq 50, 3) := eX6_read_16.2.2.2.1
theorem dX6_read_42 : decode cX6_read 42 = .ok (.aload_n 0, 1) := eX6_read_16.2.2.2.2.1
theorem dX6_read_43 : decode cX6_read 43 = .ok (.invokevirtual 52, 3) := eX6_read_16.2.2.2.2.2.1
theorem dX6_read_46 : decode cX6_read 46 = .ok (.ifCond .eq 43, 3) := eX6_read_16.2.2.2.2.2.2.1
theorem dX6_read_49 : decode cX6_read 49 = .ok (.aload_n 0, 1) := eX6_read_16.2.2.2.2.2.2.2
theorem eX6_read_24 : (decode cX6_read 50 = .ok (.bipush 59, 2)) ∧ (decode cX6_read 52 = .ok (.invokevirtual 48, 3)) ∧ (decode cX6_read 55 = .ok (.ifCond .eq 34, 3)) ∧ (decode cX6_read 58 = .ok (.aload_n 0, 1)) ∧ (decode cX6_read 59 = .ok (.ldc 56, 2)) ∧ (decode cX6_read 61 = .ok (.invokevirtual 40, 3)) ∧ (decode cX6_read 64 = .ok (.ifCond .eq 25, 3)) ∧ (decode cX6_read 67 = .ok (.aload_n 0, 1)) := by decide +kernel
theorem dX6_read_50 : decode cX6_read 50 = .ok (.bipush 59, 2) := eX6_read_24.1
theorem dX6_read_52 : decode cX6_read 52 = .ok (.invokevirtual 48, 3) := eX6_read_24.2.1
theorem dX6_read_55 : decode cX6_read 55 = .ok (.ifCond .eq 34, 3) := eX6_read_24.2.2.1
theorem dX6_read_58 : decode cX6_read 58 = .ok (.aload_n 0, 1) := eX6_read_24.2.2.2.1
theorem dX6_read_59 : decode cX6_read 59 = .ok (.ldc 56, 2) := eX6_read_24.2.2.2.2.1
theorem dX6_read_61 : decode cX6_read 61 = .ok (.invokevirtual 40, 3) := eX6_read_24.2.2.2.2.2.1
theorem dX6_read_64 : decode cX6_read 64 = .ok (.ifCond .eq 25, 3) := eX6_read_24.2.2.2.2.2.2.1
theorem dX6_read_67 : decode cX6_read 67 = .ok (.aload_n 0, 1) := eX6_read_24.2.2.2.2.2.2.2
theorem eX6_read_32 : (decode cX6_read 68 = .ok (.invokevirtual 58, 3)) ∧ (decode cX6_read 71 = .ok (.ifCond .eq 18, 3)) ∧ (decode cX6_read 74 = .ok (.aload_n 0, 1)) ∧ (decode cX6_read 75 = .ok (.getfield 61, 3)) ∧ (decode cX6_read 78 = .ok (.aload_n 0, 1)) ∧ (decode cX6_read 79 = .ok (.getfield 22, 3)) ∧ (decode cX6_read 82 = .ok (.if_icmp .lt 7, 3)) ∧ (decode cX6_read 85 = .ok (.iconst 1, 1)) := by decide +kernel
theorem dX6_read_68 : decode cX6_read 68 = .ok (.invokevirtual 58, 3) := eX6_read_32.1
theorem dX6_read_71 : decode cX6_read 71 = .ok (.ifCond .eq 18, 3) := eX6_read_32.2.1
theorem dX6_read_74 : decode cX6_read 74 = .ok (.aload_n 0, 1) := eX6_read_32.2.2.1
theorem dX6_read_75 : decode cX6_read 75 = .ok (.getfield 61, 3) := eX6_read_32.2.2.2.1
theorem dX6_read_78 : decode cX6_read 78 = .ok (.aload_n 0, 1) := eX6_read_32.2.2.2.2.1
theorem dX6_read_79 : decode cX6_read 79 = .ok (.getfield 22, 3) := eX6_read_32.2.2.2.2.2.1
theorem dX6_read_82 : decode cX6_read 82 = .ok (.if_icmp .lt 7, 3) := eX6_read_32.2.2.2.2.2.2.1
theorem dX6_read_85 : decode cX6_read 85 = .ok (.iconst 1, 1) := eX6_read_32.2.2.2.2.2.2.2
theorem eX6_read_40 : (decode cX6_read 86 = .ok (.goto 4, 3)) ∧ (decode cX6_read 89 = .ok (.iconst 0, 1)) ∧ (decode cX6_read 90 = .ok (.istore_n 1, 1)) ∧ (decode cX6_read 91 = .ok (.aload_n 0, 1)) ∧ (decode cX6_read 92 = .ok (.iload_n 1, 1)) ∧ (decode cX6_read 93 = .ok (.ifCond .eq 7, 3)) ∧ (decode cX6_read 96 = .ok (.iconst (-1), 1)) ∧ (decode cX6_read 97 = .ok (.goto 7, 3)) := by decide +kernel
theorem dX6_read_86 : decode cX6_read 86 = .ok (.goto 4, 3) := eX6_read_40.1
theorem dX6_read_89 : decode cX6_read 89 = .ok (.iconst 0, 1) := eX6_read_40.2.1
theorem dX6_read_90 : decode cX6_read 90 = .ok (.istore_n 1, 1) := eX6_read_40.2.2.1
theorem dX6_read_91 : decode cX6_read 91 = .ok (.aload_n 0, 1) := eX6_read_40.2.2.2.1
theorem dX6_read_92 : decode cX6_read 92 = .ok (.iload_n 1, 1) := eX6_read_40.2.2.2.2.1
theorem dX6_read_93 : decode cX6_read 93 = .ok (.ifCond .eq 7, 3) := eX6_read_40.2.2.2.2.2.1
theorem dX6_read_96 : decode cX6_read 96 = .ok (.iconst (-1), 1) := eX6_read_40.2.2.2.2.2.2.1
theorem dX6_read_97 : decode cX6_read 97 = .ok (.goto 7, 3) := eX6_read_40.2.2.2.2.2.2.2
theorem eX6_read_48 : (decode cX6_read 100 = .ok (.aload_n 0, 1)) ∧ (decode cX6_read 101 = .ok (.getfield 61, 3)) ∧ (decode cX6_read 104 = .ok (.putfield 26, 3)) ∧ (decode cX6_read 107 = .ok (.iload_n 1, 1)) ∧ (decode cX6_read 108 = .ok (.ireturn, 1)) := by decide +kernel
theorem dX6_read_100 : decode cX6_read 100 = .ok (.aload_n 0, 1) := eX6_read_48.1
theorem dX6_read_101 : decode cX6_read 101 = .ok (.getfield 61, 3) := eX6_read_48.2.1
theorem dX6_read_104 : decode cX6_read 104 = .ok (.putfield 26, 3) := eX6_read_48.2.2.1
theorem dX6_read_107 : decode cX6_read 107 = .ok (.iload_n 1, 1) := eX6_read_48.2.2.2.1
theorem dX6_read_108 : decode cX6_read 108 = .ok (.ireturn, 1) := eX6_read_48.2.2.2.2
theorem eX6_takeManner_0 : (decode cX6_takeManner 0 = .ok (.aload_n 0, 1)) ∧ (decode cX6_takeManner 1 = .ok (.ldc 64, 2)) ∧ (decode cX6_takeManner 3 = .ok (.invokevirtual 40, 3)) ∧ (decode cX6_takeManner 6 = .ok (.ifCond .eq 5, 3)) ∧ (decode cX6_takeManner 9 = .ok (.iconst 1, 1)) ∧ (decode cX6_takeManner 10 = .ok (.ireturn, 1)) ∧ (decode cX6_takeManner 11 = .ok (.aload_n 0, 1)) ∧ (decode cX6_takeManner 12 = .ok (.ldc 66, 2)) := by decide +kernel
theorem dX6_takeManner_0 : decode cX6_takeManner 0 = .ok (.aload_n 0, 1) := eX6_takeManner_0.1
theorem dX6_takeManner_1 : decode cX6_takeManner 1 = .ok (.ldc 64, 2) := eX6_takeManner_0.2.1
theorem dX6_takeManner_3 : decode cX6_takeManner 3 = .ok (.invokevirtual 40, 3) := eX6_takeManner_0.2.2.1
theorem dX6_takeManner_6 : decode cX6_takeManner 6 = .ok (.ifCond .eq 5, 3) := eX6_takeManner_0.2.2.2.1
theorem dX6_takeManner_9 : decode cX6_takeManner 9 = .ok (.iconst 1, 1) := eX6_takeManner_0.2.2.2.2.1
theorem dX6_takeManner_10 : decode cX6_takeManner 10 = .ok (.ireturn, 1) := eX6_takeManner_0.2.2.2.2.2.1
theorem dX6_takeManner_11 : decode cX6_takeManner 11 = .ok (.aload_n 0, 1) := eX6_takeManner_0.2.2.2.2.2.2.1
theorem dX6_takeManner_12 : decode cX6_takeManner 12 = .ok (.ldc 66, 2) := eX6_takeManner_0.2.2.2.2.2.2.2
theorem eX6_takeManner_8 : (decode cX6_takeManner 14 = .ok (.invokevirtual 40, 3)) ∧ (decode cX6_takeManner 17 = .ok (.ifCond .eq 10, 3)) ∧ (decode cX6_takeManner 20 = .ok (.aload_n 0, 1)) ∧ (decode cX6_takeManner 21 = .ok (.invokevirtual 68, 3)) ∧ (decode cX6_takeManner 24 = .ok (.ifCond .ne 5, 3)) ∧ (decode cX6_takeManner 27 = .ok (.iconst 0, 1)) ∧ (decode cX6_takeManner 28 = .ok (.ireturn, 1)) ∧ (decode cX6_takeManner 29 = .ok (.iconst 1, 1)) := by decide +kernel
theorem dX6_takeManner_14 : decode cX6_takeManner 14 = .ok (.invokevirtual 40, 3) := eX6_takeManner_8.1
theorem dX6_takeManner_17 : decode cX6_takeManner 17 = .ok (.ifCond .eq 10, 3) := eX6_takeManner_8.2.1
theorem dX6_takeManner_20 : decode cX6_takeManner 20 = .ok (.aload_n 0, 1) := eX6_takeManner_8.2.2.1
theorem dX6_takeManner_21 : decode cX6_takeManner 21 = .ok (.invokevirtual 68, 3) := eX6_takeManner_8.2.2.2.1
theorem dX6_takeManner_24 : decode cX6_takeManner 24 = .ok (.ifCond .ne 5, 3) := eX6_takeManner_8.2.2.2.2.1
theorem dX6_takeManner_27 : decode cX6_takeManner 27 = .ok (.iconst 0, 1) := eX6_takeManner_8.2.2.2.2.2.1
theorem dX6_takeManner_28 : decode cX6_takeManner 28 = .ok (.ireturn, 1) := eX6_takeManner_8.2.2.2.2.2.2.1
theorem dX6_takeManner_29 : decode cX6_takeManner 29 = .ok (.iconst 1, 1) := eX6_takeManner_8.2.2.2.2.2.2.2
theorem eX6_takeManner_16 : (decode cX6_takeManner 30 = .ok (.istore_n 1, 1)) ∧ (decode cX6_takeManner 31 = .ok (.iload_n 1, 1)) ∧ (decode cX6_takeManner 32 = .ok (.iconst 5, 1)) ∧ (decode cX6_takeManner 33 = .ok (.if_icmp .ge 26, 3)) ∧ (decode cX6_takeManner 36 = .ok (.aload_n 0, 1)) ∧ (decode cX6_takeManner 37 = .ok (.getfield 71, 3)) ∧ (decode cX6_takeManner 40 = .ok (.iconst (-1), 1)) ∧ (decode cX6_takeManner 41 = .ok (.if_icmp .eq 18, 3)) := by decide +kernel
theorem dX6_takeManner_30 : decode cX6_takeManner 30 = .ok (.istore_n 1, 1) := eX6_takeManner_16.1
theorem dX6_takeManner_31 : decode cX6_takeManner 31 = .ok (.iload_n 1, 1) := eX6_takeManner_16.2.1
theorem dX6_takeManner_32 : decode cX6_takeManner 32 = .ok (.iconst 5, 1) := eX6_takeManner_16.2.2.1
theorem dX6_takeManner_33 : decode cX6_takeManner 33 = .ok (.if_icmp .ge 26, 3) := eX6_takeManner_16.2.2.2.1
theorem dX6_takeManner_36 : decode cX6_takeManner 36 = .ok (.aload_n 0, 1) := eX6_takeManner_16.2.2.2.2.1
theorem dX6_takeManner_37 : decode cX6_takeManner 37 = .ok (.getfield 71, 3) := eX6_takeManner_16.2.2.2.2.2.1
theorem dX6_takeManner_40 : decode cX6_takeManner 40 = .ok (.iconst (-1), 1) := eX6_takeManner_16.2.2.2.2.2.2.1
theorem dX6_takeManner_41 : decode cX6_takeManner 41 = .ok (.if_icmp .eq 18, 3) := eX6_takeManner_16.2.2.2.2.2.2.2
theorem eX6_takeManner_24 : (decode cX6_takeManner 44 = .ok (.aload_n 0, 1)) ∧ (decode cX6_takeManner 45 = .ok (.invokevirtual 68, 3)) ∧ (decode cX6_takeManner 48 = .ok (.ifCond .ne 5, 3)) ∧ (decode cX6_takeManner 51 = .ok (.iconst 0, 1)) ∧ (decode cX6_takeManner 52 = .ok (.ireturn, 1)) ∧ (decode cX6_takeManner 53 = .ok (.iinc 1 1, 3)) ∧ (decode cX6_takeManner 56 = .ok (.goto (-25), 3)) ∧ (decode cX6_takeManner 59 = .ok (.iconst 1, 1)) := by decide +kernel
theorem dX6_takeManner_44 : decode cX6_takeManner 44 = .ok (.aload_n 0, 1) := eX6_takeManner_24.1
theorem dX6_takeManner_45 : decode cX6_takeManner 45 = .ok (.invokevirtual 68, 3) := eX6_takeManner_24.2.1
theorem dX6_takeManner_48 : decode cX6_takeManner 48 = .ok (.ifCond .ne 5, 3) := eX6_takeManner_24.2.2.1
theorem dX6_takeManner_51 : decode cX6_takeManner 51 = .ok (.iconst 0, 1) := eX6_takeManner_24.2.2.2.1
theorem dX6_takeManner_52 : decode cX6_takeManner 52 = .ok (.ireturn, 1) := eX6_takeManner_24.2.2.2.2.1
theorem dX6_takeManner_53 : decode cX6_takeManner 53 = .ok (.iinc 1 1, 3) := eX6_takeManner_24.2.2.2.2.2.1
theorem dX6_takeManner_56 : decode cX6_takeManner 56 = .ok (.goto (-25), 3) := eX6_takeManner_24.2.2.2.2.2.2.1
theorem dX6_takeManner_59 : decode cX6_takeManner 59 = .ok (.iconst 1, 1) := eX6_takeManner_24.2.2.2.2.2.2.2
theorem dX6_takeManner_60 : decode cX6_takeManner 60 = .ok (.ireturn, 1) := by decide +kernel
theorem eX6_takePoints_0 : (decode cX6_takePoints 0 = .ok (.aload_n 0, 1)) ∧ (decode cX6_takePoints 1 = .ok (.getfield 71, 3)) ∧ (decode cX6_takePoints 4 = .ok (.istore_n 1, 1)) ∧ (decode cX6_takePoints 5 = .ok (.aload_n 0, 1)) ∧ (decode cX6_takePoints 6 = .ok (.invokevirtual 74, 3)) ∧ (decode cX6_takePoints 9 = .ok (.ifCond .eq 18, 3)) ∧ (decode cX6_takePoints 12 = .ok (.aload_n 0, 1)) ∧ (decode cX6_takePoints 13 = .ok (.getfield 18, 3)) := by decide +kernel
theorem dX6_takePoints_0 : decode cX6_takePoints 0 = .ok (.aload_n 0, 1) := eX6_takePoints_0.1
theorem dX6_takePoints_1 : decode cX6_takePoints 1 = .ok (.getfield 71, 3) := eX6_takePoints_0.2.1
theorem dX6_takePoints_4 : decode cX6_takePoints 4 = .ok (.istore_n 1, 1) := eX6_takePoints_0.2.2.1
theorem dX6_takePoints_5 : decode cX6_takePoints 5 = .ok (.aload_n 0, 1) := eX6_takePoints_0.2.2.2.1
theorem dX6_takePoints_6 : decode cX6_takePoints 6 = .ok (.invokevirtual 74, 3) := eX6_takePoints_0.2.2.2.2.1
theorem dX6_takePoints_9 : decode cX6_takePoints 9 = .ok (.ifCond .eq 18, 3) := eX6_takePoints_0.2.2.2.2.2.1
theorem dX6_takePoints_12 : decode cX6_takePoints 12 = .ok (.aload_n 0, 1) := eX6_takePoints_0.2.2.2.2.2.2.1
theorem dX6_takePoints_13 : decode cX6_takePoints 13 = .ok (.getfield 18, 3) := eX6_takePoints_0.2.2.2.2.2.2.2
theorem eX6_takePoints_8 : (decode cX6_takePoints 16 = .ok (.iload_n 1, 1)) ∧ (decode cX6_takePoints 17 = .ok (.invokevirtual 77, 3)) ∧ (decode cX6_takePoints 20 = .ok (.ifCond .eq 7, 3)) ∧ (decode cX6_takePoints 23 = .ok (.iconst 1, 1)) ∧ (decode cX6_takePoints 24 = .ok (.goto 4, 3)) ∧ (decode cX6_takePoints 27 = .ok (.iconst 0, 1)) ∧ (decode cX6_takePoints 28 = .ok (.ireturn, 1)) := by decide +kernel
theorem dX6_takePoints_16 : decode cX6_takePoints 16 = .ok (.iload_n 1, 1) := eX6_takePoints_8.1
theorem dX6_takePoints_17 : decode cX6_takePoints 17 = .ok (.invokevirtual 77, 3) := eX6_takePoints_8.2.1
theorem dX6_takePoints_20 : decode cX6_takePoints 20 = .ok (.ifCond .eq 7, 3) := eX6_takePoints_8.2.2.1
theorem dX6_takePoints_23 : decode cX6_takePoints 23 = .ok (.iconst 1, 1) := eX6_takePoints_8.2.2.2.1
theorem dX6_takePoints_24 : decode cX6_takePoints 24 = .ok (.goto 4, 3) := eX6_takePoints_8.2.2.2.2.1
theorem dX6_takePoints_27 : decode cX6_takePoints 27 = .ok (.iconst 0, 1) := eX6_takePoints_8.2.2.2.2.2.1
theorem dX6_takePoints_28 : decode cX6_takePoints 28 = .ok (.ireturn, 1) := eX6_takePoints_8.2.2.2.2.2.2
theorem eX6_takeTie_0 : (decode cX6_takeTie 0 = .ok (.aload_n 0, 1)) ∧ (decode cX6_takeTie 1 = .ok (.ldc 80, 2)) ∧ (decode cX6_takeTie 3 = .ok (.invokevirtual 40, 3)) ∧ (decode cX6_takeTie 6 = .ok (.ifCond .eq 13, 3)) ∧ (decode cX6_takeTie 9 = .ok (.aload_n 0, 1)) ∧ (decode cX6_takeTie 10 = .ok (.getfield 18, 3)) ∧ (decode cX6_takeTie 13 = .ok (.iconst 1, 1)) ∧ (decode cX6_takeTie 14 = .ok (.putfield 82, 3)) := by decide +kernel
theorem dX6_takeTie_0 : decode cX6_takeTie 0 = .ok (.aload_n 0, 1) := eX6_takeTie_0.1
theorem dX6_takeTie_1 : decode cX6_takeTie 1 = .ok (.ldc 80, 2) := eX6_takeTie_0.2.1
theorem dX6_takeTie_3 : decode cX6_takeTie 3 = .ok (.invokevirtual 40, 3) := eX6_takeTie_0.2.2.1
theorem dX6_takeTie_6 : decode cX6_takeTie 6 = .ok (.ifCond .eq 13, 3) := eX6_takeTie_0.2.2.2.1
theorem dX6_takeTie_9 : decode cX6_takeTie 9 = .ok (.aload_n 0, 1) := eX6_takeTie_0.2.2.2.2.1
theorem dX6_takeTie_10 : decode cX6_takeTie 10 = .ok (.getfield 18, 3) := eX6_takeTie_0.2.2.2.2.2.1
theorem dX6_takeTie_13 : decode cX6_takeTie 13 = .ok (.iconst 1, 1) := eX6_takeTie_0.2.2.2.2.2.2.1
theorem dX6_takeTie_14 : decode cX6_takeTie 14 = .ok (.putfield 82, 3) := eX6_takeTie_0.2.2.2.2.2.2.2
theorem eX6_takeTie_8 : (decode cX6_takeTie 17 = .ok (.iconst 1, 1)) ∧ (decode cX6_takeTie 18 = .ok (.ireturn, 1)) ∧ (decode cX6_takeTie 19 = .ok (.aload_n 0, 1)) ∧ (decode cX6_takeTie 20 = .ok (.ldc 84, 2)) ∧ (decode cX6_takeTie 22 = .ok (.invokevirtual 40, 3)) ∧ (decode cX6_takeTie 25 = .ok (.ifCond .eq 13, 3)) ∧ (decode cX6_takeTie 28 = .ok (.aload_n 0, 1)) ∧ (decode cX6_takeTie 29 = .ok (.getfield 18, 3)) := by decide +kernel
theorem dX6_takeTie_17 : decode cX6_takeTie 17 = .ok (.iconst 1, 1) := eX6_takeTie_8.1
theorem dX6_takeTie_18 : decode cX6_takeTie 18 = .ok (.ireturn, 1) := eX6_takeTie_8.2.1
theorem dX6_takeTie_19 : decode cX6_takeTie 19 = .ok (.aload_n 0, 1) := eX6_takeTie_8.2.2.1
theorem dX6_takeTie_20 : decode cX6_takeTie 20 = .ok (.ldc 84, 2) := eX6_takeTie_8.2.2.2.1
theorem dX6_takeTie_22 : decode cX6_takeTie 22 = .ok (.invokevirtual 40, 3) := eX6_takeTie_8.2.2.2.2.1
theorem dX6_takeTie_25 : decode cX6_takeTie 25 = .ok (.ifCond .eq 13, 3) := eX6_takeTie_8.2.2.2.2.2.1
theorem dX6_takeTie_28 : decode cX6_takeTie 28 = .ok (.aload_n 0, 1) := eX6_takeTie_8.2.2.2.2.2.2.1
theorem dX6_takeTie_29 : decode cX6_takeTie 29 = .ok (.getfield 18, 3) := eX6_takeTie_8.2.2.2.2.2.2.2
theorem eX6_takeTie_16 : (decode cX6_takeTie 32 = .ok (.iconst 2, 1)) ∧ (decode cX6_takeTie 33 = .ok (.putfield 82, 3)) ∧ (decode cX6_takeTie 36 = .ok (.iconst 1, 1)) ∧ (decode cX6_takeTie 37 = .ok (.ireturn, 1)) ∧ (decode cX6_takeTie 38 = .ok (.aload_n 0, 1)) ∧ (decode cX6_takeTie 39 = .ok (.ldc 86, 2)) ∧ (decode cX6_takeTie 41 = .ok (.invokevirtual 40, 3)) ∧ (decode cX6_takeTie 44 = .ok (.ireturn, 1)) := by decide +kernel
theorem dX6_takeTie_32 : decode cX6_takeTie 32 = .ok (.iconst 2, 1) := eX6_takeTie_16.1
theorem dX6_takeTie_33 : decode cX6_takeTie 33 = .ok (.putfield 82, 3) := eX6_takeTie_16.2.1
theorem dX6_takeTie_36 : decode cX6_takeTie 36 = .ok (.iconst 1, 1) := eX6_takeTie_16.2.2.1
theorem dX6_takeTie_37 : decode cX6_takeTie 37 = .ok (.ireturn, 1) := eX6_takeTie_16.2.2.2.1
theorem dX6_takeTie_38 : decode cX6_takeTie 38 = .ok (.aload_n 0, 1) := eX6_takeTie_16.2.2.2.2.1
theorem dX6_takeTie_39 : decode cX6_takeTie 39 = .ok (.ldc 86, 2) := eX6_takeTie_16.2.2.2.2.2.1
theorem dX6_takeTie_41 : decode cX6_takeTie 41 = .ok (.invokevirtual 40, 3) := eX6_takeTie_16.2.2.2.2.2.2.1
theorem dX6_takeTie_44 : decode cX6_takeTie 44 = .ok (.ireturn, 1) := eX6_takeTie_16.2.2.2.2.2.2.2
theorem eX6_takeCond_0 : (decode cX6_takeCond 0 = .ok (.aload_n 0, 1)) ∧ (decode cX6_takeCond 1 = .ok (.iload_n 1, 1)) ∧ (decode cX6_takeCond 2 = .ok (.invokevirtual 88, 3)) ∧ (decode cX6_takeCond 5 = .ok (.istore_n 2, 1)) ∧ (decode cX6_takeCond 6 = .ok (.iconst 0, 1)) ∧ (decode cX6_takeCond 7 = .ok (.istore_n 3, 1)) ∧ (decode cX6_takeCond 8 = .ok (.iload_n 3, 1)) ∧ (decode cX6_takeCond 9 = .ok (.sipush 300, 3)) := by decide +kernel
theorem dX6_takeCond_0 : decode cX6_takeCond 0 = .ok (.aload_n 0, 1) := eX6_takeCond_0.1
theorem dX6_takeCond_1 : decode cX6_takeCond 1 = .ok (.iload_n 1, 1) := eX6_takeCond_0.2.1
theorem dX6_takeCond_2 : decode cX6_takeCond 2 = .ok (.invokevirtual 88, 3) := eX6_takeCond_0.2.2.1
theorem dX6_takeCond_5 : decode cX6_takeCond 5 = .ok (.istore_n 2, 1) := eX6_takeCond_0.2.2.2.1
theorem dX6_takeCond_6 : decode cX6_takeCond 6 = .ok (.iconst 0, 1) := eX6_takeCond_0.2.2.2.2.1
theorem dX6_takeCond_7 : decode cX6_takeCond 7 = .ok (.istore_n 3, 1) := eX6_takeCond_0.2.2.2.2.2.1
theorem dX6_takeCond_8 : decode cX6_takeCond 8 = .ok (.iload_n 3, 1) := eX6_takeCond_0.2.2.2.2.2.2.1
theorem dX6_takeCond_9 : decode cX6_takeCond 9 = .ok (.sipush 300, 3) := eX6_takeCond_0.2.2.2.2.2.2.2
theorem eX6_takeCond_8 : (decode cX6_takeCond 12 = .ok (.if_icmp .ge 36, 3)) ∧ (decode cX6_takeCond 15 = .ok (.iload_n 2, 1)) ∧ (decode cX6_takeCond 16 = .ok (.ifCond .eq 32, 3)) ∧ (decode cX6_takeCond 19 = .ok (.aload_n 0, 1)) ∧ (decode cX6_takeCond 20 = .ok (.ldc 91, 2)) ∧ (decode cX6_takeCond 22 = .ok (.invokevirtual 40, 3)) ∧ (decode cX6_takeCond 25 = .ok (.ifCond .eq 23, 3)) ∧ (decode cX6_takeCond 28 = .ok (.aload_n 0, 1)) := by decide +kernel
theorem dX6_takeCond_12 : decode cX6_takeCond 12 = .ok (.if_icmp .ge 36, 3) := eX6_takeCond_8.1
theorem dX6_takeCond_15 : decode cX6_takeCond 15 = .ok (.iload_n 2, 1) := eX6_takeCond_8.2.1
theorem dX6_takeCond_16 : decode cX6_takeCond 16 = .ok (.ifCond .eq 32, 3) := eX6_takeCond_8.2.2.1
theorem dX6_takeCond_19 : decode cX6_takeCond 19 = .ok (.aload_n 0, 1) := eX6_takeCond_8.2.2.2.1
theorem dX6_takeCond_20 : decode cX6_takeCond 20 = .ok (.ldc 91, 2) := eX6_takeCond_8.2.2.2.2.1
theorem dX6_takeCond_22 : decode cX6_takeCond 22 = .ok (.invokevirtual 40, 3) := eX6_takeCond_8.2.2.2.2.2.1
theorem dX6_takeCond_25 : decode cX6_takeCond 25 = .ok (.ifCond .eq 23, 3) := eX6_takeCond_8.2.2.2.2.2.2.1
theorem dX6_takeCond_28 : decode cX6_takeCond 28 = .ok (.aload_n 0, 1) := eX6_takeCond_8.2.2.2.2.2.2.2
theorem eX6_takeCond_16 : (decode cX6_takeCond 29 = .ok (.iload_n 1, 1)) ∧ (decode cX6_takeCond 30 = .ok (.invokevirtual 88, 3)) ∧ (decode cX6_takeCond 33 = .ok (.istore_n 2, 1)) ∧ (decode cX6_takeCond 34 = .ok (.aload_n 0, 1)) ∧ (decode cX6_takeCond 35 = .ok (.getfield 18, 3)) ∧ (decode cX6_takeCond 38 = .ok (.iconst 4, 1)) ∧ (decode cX6_takeCond 39 = .ok (.invokevirtual 93, 3)) ∧ (decode cX6_takeCond 42 = .ok (.iinc 3 1, 3)) := by decide +kernel
theorem dX6_takeCond_29 : decode cX6_takeCond 29 = .ok (.iload_n 1, 1) := eX6_takeCond_16.1
theorem dX6_takeCond_30 : decode cX6_takeCond 30 = .ok (.invokevirtual 88, 3) := eX6_takeCond_16.2.1
theorem dX6_takeCond_33 : decode cX6_takeCond 33 = .ok (.istore_n 2, 1) := eX6_takeCond_16.2.2.1
theorem dX6_takeCond_34 : decode cX6_takeCond 34 = .ok (.aload_n 0, 1) := eX6_takeCond_16.2.2.2.1
theorem dX6_takeCond_35 : decode cX6_takeCond 35 = .ok (.getfield 18, 3) := eX6_takeCond_16.2.2.2.2.1
theorem dX6_takeCond_38 : decode cX6_takeCond 38 = .ok (.iconst 4, 1) := eX6_takeCond_16.2.2.2.2.2.1
theorem dX6_takeCond_39 : decode cX6_takeCond 39 = .ok (.invokevirtual 93, 3) := eX6_takeCond_16.2.2.2.2.2.2.1
theorem dX6_takeCond_42 : decode cX6_takeCond 42 = .ok (.iinc 3 1, 3) := eX6_takeCond_16.2.2.2.2.2.2.2
theorem eX6_takeCond_24 : (decode cX6_takeCond 45 = .ok (.goto (-37), 3)) ∧ (decode cX6_takeCond 48 = .ok (.iload_n 2, 1)) ∧ (decode cX6_takeCond 49 = .ok (.ireturn, 1)) := by decide +kernel
theorem dX6_takeCond_45 : decode cX6_takeCond 45 = .ok (.goto (-37), 3) := eX6_takeCond_24.1
theorem dX6_takeCond_48 : decode cX6_takeCond 48 = .ok (.iload_n 2, 1) := eX6_takeCond_24.2.1
theorem dX6_takeCond_49 : decode cX6_takeCond 49 = .ok (.ireturn, 1) := eX6_takeCond_24.2.2
theorem eX6_takeAnd_0 : (decode cX6_takeAnd 0 = .ok (.aload_n 0, 1)) ∧ (decode cX6_takeAnd 1 = .ok (.iload_n 1, 1)) ∧ (decode cX6_takeAnd 2 = .ok (.invokevirtual 97, 3)) ∧ (decode cX6_takeAnd 5 = .ok (.istore_n 2, 1)) ∧ (decode cX6_takeAnd 6 = .ok (.iconst 0, 1)) ∧ (decode cX6_takeAnd 7 = .ok (.istore_n 3, 1)) ∧ (decode cX6_takeAnd 8 = .ok (.iload_n 3, 1)) ∧ (decode cX6_takeAnd 9 = .ok (.sipush 300, 3)) := by decide +kernel
theorem dX6_takeAnd_0 : decode cX6_takeAnd 0 = .ok (.aload_n 0, 1) := eX6_takeAnd_0.1
theorem dX6_takeAnd_1 : decode cX6_takeAnd 1 = .ok (.iload_n 1, 1) := eX6_takeAnd_0.2.1
theorem dX6_takeAnd_2 : decode cX6_takeAnd 2 = .ok (.invokevirtual 97, 3) := eX6_takeAnd_0.2.2.1
theorem dX6_takeAnd_5 : decode cX6_takeAnd 5 = .ok (.istore_n 2, 1) := eX6_takeAnd_0.2.2.2.1
theorem dX6_takeAnd_6 : decode cX6_takeAnd 6 = .ok (.iconst 0, 1) := eX6_takeAnd_0.2.2.2.2.1
theorem dX6_takeAnd_7 : decode cX6_takeAnd 7 = .ok (.istore_n 3, 1) := eX6_takeAnd_0.2.2.2.2.2.1
theorem dX6_takeAnd_8 : decode cX6_takeAnd 8 = .ok (.iload_n 3, 1) := eX6_takeAnd_0.2.2.2.2.2.2.1
theorem dX6_takeAnd_9 : decode cX6_takeAnd 9 = .ok (.sipush 300, 3) := eX6_takeAnd_0.2.2.2.2.2.2.2
theorem eX6_takeAnd_8 : (decode cX6_takeAnd 12 = .ok (.if_icmp .ge 36, 3)) ∧ (decode cX6_takeAnd 15 = .ok (.iload_n 2, 1)) ∧ (decode cX6_takeAnd 16 = .ok (.ifCond .eq 32, 3)) ∧ (decode cX6_takeAnd 19 = .ok (.aload_n 0, 1)) ∧ (decode cX6_takeAnd 20 = .ok (.ldc 100, 2)) ∧ (decode cX6_takeAnd 22 = .ok (.invokevirtual 40, 3)) ∧ (decode cX6_takeAnd 25 = .ok (.ifCond .eq 23, 3)) ∧ (decode cX6_takeAnd 28 = .ok (.aload_n 0, 1)) := by decide +kernel
theorem dX6_takeAnd_12 : decode cX6_takeAnd 12 = .ok (.if_icmp .ge 36, 3) := eX6_takeAnd_8.1
theorem dX6_takeAnd_15 : decode cX6_takeAnd 15 = .ok (.iload_n 2, 1) := eX6_takeAnd_8.2.1
theorem dX6_takeAnd_16 : decode cX6_takeAnd 16 = .ok (.ifCond .eq 32, 3) := eX6_takeAnd_8.2.2.1
theorem dX6_takeAnd_19 : decode cX6_takeAnd 19 = .ok (.aload_n 0, 1) := eX6_takeAnd_8.2.2.2.1
theorem dX6_takeAnd_20 : decode cX6_takeAnd 20 = .ok (.ldc 100, 2) := eX6_takeAnd_8.2.2.2.2.1
theorem dX6_takeAnd_22 : decode cX6_takeAnd 22 = .ok (.invokevirtual 40, 3) := eX6_takeAnd_8.2.2.2.2.2.1
theorem dX6_takeAnd_25 : decode cX6_takeAnd 25 = .ok (.ifCond .eq 23, 3) := eX6_takeAnd_8.2.2.2.2.2.2.1
theorem dX6_takeAnd_28 : decode cX6_takeAnd 28 = .ok (.aload_n 0, 1) := eX6_takeAnd_8.2.2.2.2.2.2.2
theorem eX6_takeAnd_16 : (decode cX6_takeAnd 29 = .ok (.iload_n 1, 1)) ∧ (decode cX6_takeAnd 30 = .ok (.invokevirtual 97, 3)) ∧ (decode cX6_takeAnd 33 = .ok (.istore_n 2, 1)) ∧ (decode cX6_takeAnd 34 = .ok (.aload_n 0, 1)) ∧ (decode cX6_takeAnd 35 = .ok (.getfield 18, 3)) ∧ (decode cX6_takeAnd 38 = .ok (.iconst 3, 1)) ∧ (decode cX6_takeAnd 39 = .ok (.invokevirtual 93, 3)) ∧ (decode cX6_takeAnd 42 = .ok (.iinc 3 1, 3)) := by decide +kernel
theorem dX6_takeAnd_29 : decode cX6_takeAnd 29 = .ok (.iload_n 1, 1) := eX6_takeAnd_16.1
theorem dX6_takeAnd_30 : decode cX6_takeAnd 30 = .ok (.invokevirtual 97, 3) := eX6_takeAnd_16.2.1
theorem dX6_takeAnd_33 : decode cX6_takeAnd 33 = .ok (.istore_n 2, 1) := eX6_takeAnd_16.2.2.1
theorem dX6_takeAnd_34 : decode cX6_takeAnd 34 = .ok (.aload_n 0, 1) := eX6_takeAnd_16.2.2.2.1
theorem dX6_takeAnd_35 : decode cX6_takeAnd 35 = .ok (.getfield 18, 3) := eX6_takeAnd_16.2.2.2.2.1
theorem dX6_takeAnd_38 : decode cX6_takeAnd 38 = .ok (.iconst 3, 1) := eX6_takeAnd_16.2.2.2.2.2.1
theorem dX6_takeAnd_39 : decode cX6_takeAnd 39 = .ok (.invokevirtual 93, 3) := eX6_takeAnd_16.2.2.2.2.2.2.1
theorem dX6_takeAnd_42 : decode cX6_takeAnd 42 = .ok (.iinc 3 1, 3) := eX6_takeAnd_16.2.2.2.2.2.2.2
theorem eX6_takeAnd_24 : (decode cX6_takeAnd 45 = .ok (.goto (-37), 3)) ∧ (decode cX6_takeAnd 48 = .ok (.iload_n 2, 1)) ∧ (decode cX6_takeAnd 49 = .ok (.ireturn, 1)) := by decide +kernel
theorem dX6_takeAnd_45 : decode cX6_takeAnd 45 = .ok (.goto (-37), 3) := eX6_takeAnd_24.1
theorem dX6_takeAnd_48 : decode cX6_takeAnd 48 = .ok (.iload_n 2, 1) := eX6_takeAnd_24.2.1
theorem dX6_takeAnd_49 : decode cX6_takeAnd 49 = .ok (.ireturn, 1) := eX6_takeAnd_24.2.2
theorem eX6_takeNot_0 : (decode cX6_takeNot 0 = .ok (.iload_n 1, 1)) ∧ (decode cX6_takeNot 1 = .ok (.bipush 8, 2)) ∧ (decode cX6_takeNot 3 = .ok (.if_icmp .ge 30, 3)) ∧ (decode cX6_takeNot 6 = .ok (.aload_n 0, 1)) ∧ (decode cX6_takeNot 7 = .ok (.ldc 102, 2)) ∧ (decode cX6_takeNot 9 = .ok (.invokevirtual 40, 3)) ∧ (decode cX6_takeNot 12 = .ok (.ifCond .eq 21, 3)) ∧ (decode cX6_takeNot 15 = .ok (.aload_n 0, 1)) := by decide +kernel
theorem dX6_takeNot_0 : decode cX6_takeNot 0 = .ok (.iload_n 1, 1) := eX6_takeNot_0.1
theorem dX6_takeNot_1 : decode cX6_takeNot 1 = .ok (.bipush 8, 2) := eX6_takeNot_0.2.1
theorem dX6_takeNot_3 : decode cX6_takeNot 3 = .ok (.if_icmp .ge 30, 3) := eX6_takeNot_0.2.2.1
theorem dX6_takeNot_6 : decode cX6_takeNot 6 = .ok (.aload_n 0, 1) := eX6_takeNot_0.2.2.2.1
theorem dX6_takeNot_7 : decode cX6_takeNot 7 = .ok (.ldc 102, 2) := eX6_takeNot_0.2.2.2.2.1
theorem dX6_takeNot_9 : decode cX6_takeNot 9 = .ok (.invokevirtual 40, 3) := eX6_takeNot_0.2.2.2.2.2.1
theorem dX6_takeNot_12 : decode cX6_takeNot 12 = .ok (.ifCond .eq 21, 3) := eX6_takeNot_0.2.2.2.2.2.2.1
theorem dX6_takeNot_15 : decode cX6_takeNot 15 = .ok (.aload_n 0, 1) := eX6_takeNot_0.2.2.2.2.2.2.2
theorem eX6_takeNot_8 : (decode cX6_takeNot 16 = .ok (.iload_n 1, 1)) ∧ (decode cX6_takeNot 17 = .ok (.iconst 1, 1)) ∧ (decode cX6_takeNot 18 = .ok (.iadd, 1)) ∧ (decode cX6_takeNot 19 = .ok (.invokevirtual 97, 3)) ∧ (decode cX6_takeNot 22 = .ok (.istore_n 2, 1)) ∧ (decode cX6_takeNot 23 = .ok (.aload_n 0, 1)) ∧ (decode cX6_takeNot 24 = .ok (.getfield 18, 3)) ∧ (decode cX6_takeNot 27 = .ok (.iconst 2, 1)) := by decide +kernel
theorem dX6_takeNot_16 : decode cX6_takeNot 16 = .ok (.iload_n 1, 1) := eX6_takeNot_8.1
theorem dX6_takeNot_17 : decode cX6_takeNot 17 = .ok (.iconst 1, 1) := eX6_takeNot_8.2.1
theorem dX6_takeNot_18 : decode cX6_takeNot 18 = .ok (.iadd, 1) := eX6_takeNot_8.2.2.1
theorem dX6_takeNot_19 : decode cX6_takeNot 19 = .ok (.invokevirtual 97, 3) := eX6_takeNot_8.2.2.2.1
theorem dX6_takeNot_22 : decode cX6_takeNot 22 = .ok (.istore_n 2, 1) := eX6_takeNot_8.2.2.2.2.1
theorem dX6_takeNot_23 : decode cX6_takeNot 23 = .ok (.aload_n 0, 1) := eX6_takeNot_8.2.2.2.2.2.1
theorem dX6_takeNot_24 : decode cX6_takeNot 24 = .ok (.getfield 18, 3) := eX6_takeNot_8.2.2.2.2.2.2.1
theorem dX6_takeNot_27 : decode cX6_takeNot 27 = .ok (.iconst 2, 1) := eX6_takeNot_8.2.2.2.2.2.2.2
theorem eX6_takeNot_16 : (decode cX6_takeNot 28 = .ok (.invokevirtual 93, 3)) ∧ (decode cX6_takeNot 31 = .ok (.iload_n 2, 1)) ∧ (decode cX6_takeNot 32 = .ok (.ireturn, 1)) ∧ (decode cX6_takeNot 33 = .ok (.iload_n 1, 1)) ∧ (decode cX6_takeNot 34 = .ok (.bipush 8, 2)) ∧ (decode cX6_takeNot 36 = .ok (.if_icmp .ge 37, 3)) ∧ (decode cX6_takeNot 39 = .ok (.aload_n 0, 1)) ∧ (decode cX6_takeNot 40 = .ok (.bipush 40, 2)) := by decide +kernel
theorem dX6_takeNot_28 : decode cX6_takeNot 28 = .ok (.invokevirtual 93, 3) := eX6_takeNot_16.1
theorem dX6_takeNot_31 : decode cX6_takeNot 31 = .ok (.iload_n 2, 1) := eX6_takeNot_16.2.1
theorem dX6_takeNot_32 : decode cX6_takeNot 32 = .ok (.ireturn, 1) := eX6_takeNot_16.2.2.1
theorem dX6_takeNot_33 : decode cX6_takeNot 33 = .ok (.iload_n 1, 1) := eX6_takeNot_16.2.2.2.1
theorem dX6_takeNot_34 : decode cX6_takeNot 34 = .ok (.bipush 8, 2) := eX6_takeNot_16.2.2.2.2.1
theorem dX6_takeNot_36 : decode cX6_takeNot 36 = .ok (.if_icmp .ge 37, 3) := eX6_takeNot_16.2.2.2.2.2.1
theorem dX6_takeNot_39 : decode cX6_takeNot 39 = .ok (.aload_n 0, 1) := eX6_takeNot_16.2.2.2.2.2.2.1
theorem dX6_takeNot_40 : decode cX6_takeNot 40 = .ok (.bipush 40, 2) := eX6_takeNot_16.2.2.2.2.2.2.2
theorem eX6_takeNot_24 : (decode cX6_takeNot 42 = .ok (.invokevirtual 48, 3)) ∧ (decode cX6_takeNot 45 = .ok (.ifCond .eq 28, 3)) ∧ (decode cX6_takeNot 48 = .ok (.aload_n 0, 1)) ∧ (decode cX6_takeNot 49 = .ok (.iload_n 1, 1)) ∧ (decode cX6_takeNot 50 = .ok (.iconst 1, 1)) ∧ (decode cX6_takeNot 51 = .ok (.iadd, 1)) ∧ (decode cX6_takeNot 52 = .ok (.invokevirtual 44, 3)) ∧ (decode cX6_takeNot 55 = .ok (.ifCond .eq 16, 3)) := by decide +kernel
theorem dX6_takeNot_42 : decode cX6_takeNot 42 = .ok (.invokevirtual 48, 3) := eX6_takeNot_24.1
theorem dX6_takeNot_45 : decode cX6_takeNot 45 = .ok (.ifCond .eq 28, 3) := eX6_takeNot_24.2.1
theorem dX6_takeNot_48 : decode cX6_takeNot 48 = .ok (.aload_n 0, 1) := eX6_takeNot_24.2.2.1
theorem dX6_takeNot_49 : decode cX6_takeNot 49 = .ok (.iload_n 1, 1) := eX6_takeNot_24.2.2.2.1
theorem dX6_takeNot_50 : decode cX6_takeNot 50 = .ok (.iconst 1, 1) := eX6_takeNot_24.2.2.2.2.1
theorem dX6_takeNot_51 : decode cX6_takeNot 51 = .ok (.iadd, 1) := eX6_takeNot_24.2.2.2.2.2.1
theorem dX6_takeNot_52 : decode cX6_takeNot 52 = .ok (.invokevirtual 44, 3) := eX6_takeNot_24.2.2.2.2.2.2.1
theorem dX6_takeNot_55 : decode cX6_takeNot 55 = .ok (.ifCond .eq 16, 3) := eX6_takeNot_24.2.2.2.2.2.2.2
theorem eX6_takeNot_32 : (decode cX6_takeNot 58 = .ok (.aload_n 0, 1)) ∧ (decode cX6_takeNot 59 = .ok (.bipush 41, 2)) ∧ (decode cX6_takeNot 61 = .ok (.invokevirtual 48, 3)) ∧ (decode cX6_takeNot 64 = .ok (.ifCond .eq 7, 3)) ∧ (decode cX6_takeNot 67 = .ok (.iconst 1, 1)) ∧ (decode cX6_takeNot 68 = .ok (.goto 4, 3)) ∧ (decode cX6_takeNot 71 = .ok (.iconst 0, 1)) ∧ (decode cX6_takeNot 72 = .ok (.ireturn, 1)) := by decide +kernel
theorem dX6_takeNot_58 : decode cX6_takeNot 58 = .ok (.aload_n 0, 1) := eX6_takeNot_32.1
theorem dX6_takeNot_59 : decode cX6_takeNot 59 = .ok (.bipush 41, 2) := eX6_takeNot_32.2.1
theorem dX6_takeNot_61 : decode cX6_takeNot 61 = .ok (.invokevirtual 48, 3) := eX6_takeNot_32.2.2.1
theorem dX6_takeNot_64 : decode cX6_takeNot 64 = .ok (.ifCond .eq 7, 3) := eX6_takeNot_32.2.2.2.1
theorem dX6_takeNot_67 : decode cX6_takeNot 67 = .ok (.iconst 1, 1) := eX6_takeNot_32.2.2.2.2.1
theorem dX6_takeNot_68 : decode cX6_takeNot 68 = .ok (.goto 4, 3) := eX6_takeNot_32.2.2.2.2.2.1
theorem dX6_takeNot_71 : decode cX6_takeNot 71 = .ok (.iconst 0, 1) := eX6_takeNot_32.2.2.2.2.2.2.1
theorem dX6_takeNot_72 : decode cX6_takeNot 72 = .ok (.ireturn, 1) := eX6_takeNot_32.2.2.2.2.2.2.2
theorem eX6_takeNot_40 : (decode cX6_takeNot 73 = .ok (.aload_n 0, 1)) ∧ (decode cX6_takeNot 74 = .ok (.invokevirtual 104, 3)) ∧ (decode cX6_takeNot 77 = .ok (.ireturn, 1)) := by decide +kernel
theorem dX6_takeNot_73 : decode cX6_takeNot 73 = .ok (.aload_n 0, 1) := eX6_takeNot_40.1
theorem dX6_takeNot_74 : decode cX6_takeNot 74 = .ok (.invokevirtual 104, 3) := eX6_takeNot_40.2.1
theorem dX6_takeNot_77 : decode cX6_takeNot 77 = .ok (.ireturn, 1) := eX6_takeNot_40.2.2
theorem eX6_takeAsked_0 : (decode cX6_takeAsked 0 = .ok (.aload_n 0, 1)) ∧ (decode cX6_takeAsked 1 = .ok (.ldc 107, 2)) ∧ (decode cX6_takeAsked 3 = .ok (.invokevirtual 40, 3)) ∧ (decode cX6_takeAsked 6 = .ok (.ifCond .eq 13, 3)) ∧ (decode cX6_takeAsked 9 = .ok (.aload_n 0, 1)) ∧ (decode cX6_takeAsked 10 = .ok (.getfield 18, 3)) ∧ (decode cX6_takeAsked 13 = .ok (.iconst 0, 1)) ∧ (decode cX6_takeAsked 14 = .ok (.invokevirtual 93, 3)) := by decide +kernel
theorem dX6_takeAsked_0 : decode cX6_takeAsked 0 = .ok (.aload_n 0, 1) := eX6_takeAsked_0.1
theorem dX6_takeAsked_1 : decode cX6_takeAsked 1 = .ok (.ldc 107, 2) := eX6_takeAsked_0.2.1
theorem dX6_takeAsked_3 : decode cX6_takeAsked 3 = .ok (.invokevirtual 40, 3) := eX6_takeAsked_0.2.2.1
theorem dX6_takeAsked_6 : decode cX6_takeAsked 6 = .ok (.ifCond .eq 13, 3) := eX6_takeAsked_0.2.2.2.1
theorem dX6_takeAsked_9 : decode cX6_takeAsked 9 = .ok (.aload_n 0, 1) := eX6_takeAsked_0.2.2.2.2.1
theorem dX6_takeAsked_10 : decode cX6_takeAsked 10 = .ok (.getfield 18, 3) := eX6_takeAsked_0.2.2.2.2.2.1
theorem dX6_takeAsked_13 : decode cX6_takeAsked 13 = .ok (.iconst 0, 1) := eX6_takeAsked_0.2.2.2.2.2.2.1
theorem dX6_takeAsked_14 : decode cX6_takeAsked 14 = .ok (.invokevirtual 93, 3) := eX6_takeAsked_0.2.2.2.2.2.2.2
theorem eX6_takeAsked_8 : (decode cX6_takeAsked 17 = .ok (.iconst 1, 1)) ∧ (decode cX6_takeAsked 18 = .ok (.ireturn, 1)) ∧ (decode cX6_takeAsked 19 = .ok (.aload_n 0, 1)) ∧ (decode cX6_takeAsked 20 = .ok (.ldc 109, 2)) ∧ (decode cX6_takeAsked 22 = .ok (.invokevirtual 40, 3)) ∧ (decode cX6_takeAsked 25 = .ok (.ifCond .eq 13, 3)) ∧ (decode cX6_takeAsked 28 = .ok (.aload_n 0, 1)) ∧ (decode cX6_takeAsked 29 = .ok (.getfield 18, 3)) := by decide +kernel
theorem dX6_takeAsked_17 : decode cX6_takeAsked 17 = .ok (.iconst 1, 1) := eX6_takeAsked_8.1
theorem dX6_takeAsked_18 : decode cX6_takeAsked 18 = .ok (.ireturn, 1) := eX6_takeAsked_8.2.1
theorem dX6_takeAsked_19 : decode cX6_takeAsked 19 = .ok (.aload_n 0, 1) := eX6_takeAsked_8.2.2.1
theorem dX6_takeAsked_20 : decode cX6_takeAsked 20 = .ok (.ldc 109, 2) := eX6_takeAsked_8.2.2.2.1
theorem dX6_takeAsked_22 : decode cX6_takeAsked 22 = .ok (.invokevirtual 40, 3) := eX6_takeAsked_8.2.2.2.2.1
theorem dX6_takeAsked_25 : decode cX6_takeAsked 25 = .ok (.ifCond .eq 13, 3) := eX6_takeAsked_8.2.2.2.2.2.1
theorem dX6_takeAsked_28 : decode cX6_takeAsked 28 = .ok (.aload_n 0, 1) := eX6_takeAsked_8.2.2.2.2.2.2.1
theorem dX6_takeAsked_29 : decode cX6_takeAsked 29 = .ok (.getfield 18, 3) := eX6_takeAsked_8.2.2.2.2.2.2.2
theorem eX6_takeAsked_16 : (decode cX6_takeAsked 32 = .ok (.iconst 1, 1)) ∧ (decode cX6_takeAsked 33 = .ok (.invokevirtual 93, 3)) ∧ (decode cX6_takeAsked 36 = .ok (.iconst 1, 1)) ∧ (decode cX6_takeAsked 37 = .ok (.ireturn, 1)) ∧ (decode cX6_takeAsked 38 = .ok (.aload_n 0, 1)) ∧ (decode cX6_takeAsked 39 = .ok (.ldc 111, 2)) ∧ (decode cX6_takeAsked 41 = .ok (.invokevirtual 40, 3)) ∧ (decode cX6_takeAsked 44 = .ok (.ifCond .ne 5, 3)) := by decide +kernel
theorem dX6_takeAsked_32 : decode cX6_takeAsked 32 = .ok (.iconst 1, 1) := eX6_takeAsked_16.1
theorem dX6_takeAsked_33 : decode cX6_takeAsked 33 = .ok (.invokevirtual 93, 3) := eX6_takeAsked_16.2.1
theorem dX6_takeAsked_36 : decode cX6_takeAsked 36 = .ok (.iconst 1, 1) := eX6_takeAsked_16.2.2.1
theorem dX6_takeAsked_37 : decode cX6_takeAsked 37 = .ok (.ireturn, 1) := eX6_takeAsked_16.2.2.2.1
theorem dX6_takeAsked_38 : decode cX6_takeAsked 38 = .ok (.aload_n 0, 1) := eX6_takeAsked_16.2.2.2.2.1
theorem dX6_takeAsked_39 : decode cX6_takeAsked 39 = .ok (.ldc 111, 2) := eX6_takeAsked_16.2.2.2.2.2.1
theorem dX6_takeAsked_41 : decode cX6_takeAsked 41 = .ok (.invokevirtual 40, 3) := eX6_takeAsked_16.2.2.2.2.2.2.1
theorem dX6_takeAsked_44 : decode cX6_takeAsked 44 = .ok (.ifCond .ne 5, 3) := eX6_takeAsked_16.2.2.2.2.2.2.2
theorem eX6_takeAsked_24 : (decode cX6_takeAsked 47 = .ok (.iconst 0, 1)) ∧ (decode cX6_takeAsked 48 = .ok (.ireturn, 1)) ∧ (decode cX6_takeAsked 49 = .ok (.aload_n 0, 1)) ∧ (decode cX6_takeAsked 50 = .ok (.getfield 71, 3)) ∧ (decode cX6_takeAsked 53 = .ok (.istore_n 1, 1)) ∧ (decode cX6_takeAsked 54 = .ok (.aload_n 0, 1)) ∧ (decode cX6_takeAsked 55 = .ok (.invokevirtual 74, 3)) ∧ (decode cX6_takeAsked 58 = .ok (.ifCond .ne 5, 3)) := by decide +kernel
theorem dX6_takeAsked_47 : decode cX6_takeAsked 47 = .ok (.iconst 0, 1) := eX6_takeAsked_24.1
theorem dX6_takeAsked_48 : decode cX6_takeAsked 48 = .ok (.ireturn, 1) := eX6_takeAsked_24.2.1
theorem dX6_takeAsked_49 : decode cX6_takeAsked 49 = .ok (.aload_n 0, 1) := eX6_takeAsked_24.2.2.1
theorem dX6_takeAsked_50 : decode cX6_takeAsked 50 = .ok (.getfield 71, 3) := eX6_takeAsked_24.2.2.2.1
theorem dX6_takeAsked_53 : decode cX6_takeAsked 53 = .ok (.istore_n 1, 1) := eX6_takeAsked_24.2.2.2.2.1
theorem dX6_takeAsked_54 : decode cX6_takeAsked 54 = .ok (.aload_n 0, 1) := eX6_takeAsked_24.2.2.2.2.2.1
theorem dX6_takeAsked_55 : decode cX6_takeAsked 55 = .ok (.invokevirtual 74, 3) := eX6_takeAsked_24.2.2.2.2.2.2.1
theorem dX6_takeAsked_58 : decode cX6_takeAsked 58 = .ok (.ifCond .ne 5, 3) := eX6_takeAsked_24.2.2.2.2.2.2.2
theorem eX6_takeAsked_32 : (decode cX6_takeAsked 61 = .ok (.iconst 0, 1)) ∧ (decode cX6_takeAsked 62 = .ok (.ireturn, 1)) ∧ (decode cX6_takeAsked 63 = .ok (.aload_n 0, 1)) ∧ (decode cX6_takeAsked 64 = .ok (.getfield 18, 3)) ∧ (decode cX6_takeAsked 67 = .ok (.iconst 5, 1)) ∧ (decode cX6_takeAsked 68 = .ok (.iload_n 1, 1)) ∧ (decode cX6_takeAsked 69 = .ok (.iadd, 1)) ∧ (decode cX6_takeAsked 70 = .ok (.invokevirtual 93, 3)) := by decide +kernel
theorem dX6_takeAsked_61 : decode cX6_takeAsked 61 = .ok (.iconst 0, 1) := eX6_takeAsked_32.1
theorem dX6_takeAsked_62 : decode cX6_takeAsked 62 = .ok (.ireturn, 1) := eX6_takeAsked_32.2.1
theorem dX6_takeAsked_63 : decode cX6_takeAsked 63 = .ok (.aload_n 0, 1) := eX6_takeAsked_32.2.2.1
theorem dX6_takeAsked_64 : decode cX6_takeAsked 64 = .ok (.getfield 18, 3) := eX6_takeAsked_32.2.2.2.1
theorem dX6_takeAsked_67 : decode cX6_takeAsked 67 = .ok (.iconst 5, 1) := eX6_takeAsked_32.2.2.2.2.1
theorem dX6_takeAsked_68 : decode cX6_takeAsked 68 = .ok (.iload_n 1, 1) := eX6_takeAsked_32.2.2.2.2.2.1
theorem dX6_takeAsked_69 : decode cX6_takeAsked 69 = .ok (.iadd, 1) := eX6_takeAsked_32.2.2.2.2.2.2.1
theorem dX6_takeAsked_70 : decode cX6_takeAsked 70 = .ok (.invokevirtual 93, 3) := eX6_takeAsked_32.2.2.2.2.2.2.2
theorem eX6_takeAsked_40 : (decode cX6_takeAsked 73 = .ok (.iconst 1, 1)) ∧ (decode cX6_takeAsked 74 = .ok (.ireturn, 1)) := by decide +kernel
theorem dX6_takeAsked_73 : decode cX6_takeAsked 73 = .ok (.iconst 1, 1) := eX6_takeAsked_40.1
theorem dX6_takeAsked_74 : decode cX6_takeAsked 74 = .ok (.ireturn, 1) := eX6_takeAsked_40.2
theorem eX6_takeNumber_0 : (decode cX6_takeNumber 0 = .ok (.aload_n 0, 1)) ∧ (decode cX6_takeNumber 1 = .ok (.getfield 71, 3)) ∧ (decode cX6_takeNumber 4 = .ok (.iconst (-1), 1)) ∧ (decode cX6_takeNumber 5 = .ok (.if_icmp .eq 13, 3)) ∧ (decode cX6_takeNumber 8 = .ok (.aload_n 0, 1)) ∧ (decode cX6_takeNumber 9 = .ok (.getfield 71, 3)) ∧ (decode cX6_takeNumber 12 = .ok (.sipush 1000, 3)) ∧ (decode cX6_takeNumber 15 = .ok (.if_icmp .le 5, 3)) := by decide +kernel
theorem dX6_takeNumber_0 : decode cX6_takeNumber 0 = .ok (.aload_n 0, 1) := eX6_takeNumber_0.1
theorem dX6_takeNumber_1 : decode cX6_takeNumber 1 = .ok (.getfield 71, 3) := eX6_takeNumber_0.2.1
theorem dX6_takeNumber_4 : decode cX6_takeNumber 4 = .ok (.iconst (-1), 1) := eX6_takeNumber_0.2.2.1
theorem dX6_takeNumber_5 : decode cX6_takeNumber 5 = .ok (.if_icmp .eq 13, 3) := eX6_takeNumber_0.2.2.2.1
theorem dX6_takeNumber_8 : decode cX6_takeNumber 8 = .ok (.aload_n 0, 1) := eX6_takeNumber_0.2.2.2.2.1
theorem dX6_takeNumber_9 : decode cX6_takeNumber 9 = .ok (.getfield 71, 3) := eX6_takeNumber_0.2.2.2.2.2.1
theorem dX6_takeNumber_12 : decode cX6_takeNumber 12 = .ok (.sipush 1000, 3) := eX6_takeNumber_0.2.2.2.2.2.2.1
theorem dX6_takeNumber_15 : decode cX6_takeNumber 15 = .ok (.if_icmp .le 5, 3) := eX6_takeNumber_0.2.2.2.2.2.2.2
theorem eX6_takeNumber_8 : (decode cX6_takeNumber 18 = .ok (.iconst 0, 1)) ∧ (decode cX6_takeNumber 19 = .ok (.ireturn, 1)) ∧ (decode cX6_takeNumber 20 = .ok (.aload_n 0, 1)) ∧ (decode cX6_takeNumber 21 = .ok (.invokevirtual 35, 3)) ∧ (decode cX6_takeNumber 24 = .ok (.iconst 1, 1)) ∧ (decode cX6_takeNumber 25 = .ok (.ireturn, 1)) := by decide +kernel
theorem dX6_takeNumber_18 : decode cX6_takeNumber 18 = .ok (.iconst 0, 1) := eX6_takeNumber_8.1
theorem dX6_takeNumber_19 : decode cX6_takeNumber 19 = .ok (.ireturn, 1) := eX6_takeNumber_8.2.1
theorem dX6_takeNumber_20 : decode cX6_takeNumber 20 = .ok (.aload_n 0, 1) := eX6_takeNumber_8.2.2.1
theorem dX6_takeNumber_21 : decode cX6_takeNumber 21 = .ok (.invokevirtual 35, 3) := eX6_takeNumber_8.2.2.2.1
theorem dX6_takeNumber_24 : decode cX6_takeNumber 24 = .ok (.iconst 1, 1) := eX6_takeNumber_8.2.2.2.2.1
theorem dX6_takeNumber_25 : decode cX6_takeNumber 25 = .ok (.ireturn, 1) := eX6_takeNumber_8.2.2.2.2.2
theorem eX6_takeByte_0 : (decode cX6_takeByte 0 = .ok (.aload_n 0, 1)) ∧ (decode cX6_takeByte 1 = .ok (.getfield 61, 3)) ∧ (decode cX6_takeByte 4 = .ok (.aload_n 0, 1)) ∧ (decode cX6_takeByte 5 = .ok (.getfield 22, 3)) ∧ (decode cX6_takeByte 8 = .ok (.if_icmp .ge 16, 3)) ∧ (decode cX6_takeByte 11 = .ok (.aload_n 0, 1)) ∧ (decode cX6_takeByte 12 = .ok (.getfield 11, 3)) ∧ (decode cX6_takeByte 15 = .ok (.aload_n 0, 1)) := by decide +kernel
theorem dX6_takeByte_0 : decode cX6_takeByte 0 = .ok (.aload_n 0, 1) := eX6_takeByte_0.1
theorem dX6_takeByte_1 : decode cX6_takeByte 1 = .ok (.getfield 61, 3) := eX6_takeByte_0.2.1
theorem dX6_takeByte_4 : decode cX6_takeByte 4 = .ok (.aload_n 0, 1) := eX6_takeByte_0.2.2.1
theorem dX6_takeByte_5 : decode cX6_takeByte 5 = .ok (.getfield 22, 3) := eX6_takeByte_0.2.2.2.1
theorem dX6_takeByte_8 : decode cX6_takeByte 8 = .ok (.if_icmp .ge 16, 3) := eX6_takeByte_0.2.2.2.2.1
theorem dX6_takeByte_11 : decode cX6_takeByte 11 = .ok (.aload_n 0, 1) := eX6_takeByte_0.2.2.2.2.2.1
theorem dX6_takeByte_12 : decode cX6_takeByte 12 = .ok (.getfield 11, 3) := eX6_takeByte_0.2.2.2.2.2.2.1
theorem dX6_takeByte_15 : decode cX6_takeByte 15 = .ok (.aload_n 0, 1) := eX6_takeByte_0.2.2.2.2.2.2.2
theorem eX6_takeByte_8 : (decode cX6_takeByte 16 = .ok (.getfield 61, 3)) ∧ (decode cX6_takeByte 19 = .ok (.iaload, 1)) ∧ (decode cX6_takeByte 20 = .ok (.iload_n 1, 1)) ∧ (decode cX6_takeByte 21 = .ok (.if_icmp .eq 5, 3)) ∧ (decode cX6_takeByte 24 = .ok (.iconst 0, 1)) ∧ (decode cX6_takeByte 25 = .ok (.ireturn, 1)) ∧ (decode cX6_takeByte 26 = .ok (.aload_n 0, 1)) ∧ (decode cX6_takeByte 27 = .ok (.invokevirtual 35, 3)) := by decide +kernel
theorem dX6_takeByte_16 : decode cX6_takeByte 16 = .ok (.getfield 61, 3) := eX6_takeByte_8.1
theorem dX6_takeByte_19 : decode cX6_takeByte 19 = .ok (.iaload, 1) := eX6_takeByte_8.2.1
theorem dX6_takeByte_20 : decode cX6_takeByte 20 = .ok (.iload_n 1, 1) := eX6_takeByte_8.2.2.1
theorem dX6_takeByte_21 : decode cX6_takeByte 21 = .ok (.if_icmp .eq 5, 3) := eX6_takeByte_8.2.2.2.1
theorem dX6_takeByte_24 : decode cX6_takeByte 24 = .ok (.iconst 0, 1) := eX6_takeByte_8.2.2.2.2.1
theorem dX6_takeByte_25 : decode cX6_takeByte 25 = .ok (.ireturn, 1) := eX6_takeByte_8.2.2.2.2.2.1
theorem dX6_takeByte_26 : decode cX6_takeByte 26 = .ok (.aload_n 0, 1) := eX6_takeByte_8.2.2.2.2.2.2.1
theorem dX6_takeByte_27 : decode cX6_takeByte 27 = .ok (.invokevirtual 35, 3) := eX6_takeByte_8.2.2.2.2.2.2.2
theorem eX6_takeByte_16 : (decode cX6_takeByte 30 = .ok (.iconst 1, 1)) ∧ (decode cX6_takeByte 31 = .ok (.ireturn, 1)) := by decide +kernel
theorem dX6_takeByte_30 : decode cX6_takeByte 30 = .ok (.iconst 1, 1) := eX6_takeByte_16.1
theorem dX6_takeByte_31 : decode cX6_takeByte 31 = .ok (.ireturn, 1) := eX6_takeByte_16.2
theorem eX6_takeWord_0 : (decode cX6_takeWord 0 = .ok (.aload_n 0, 1)) ∧ (decode cX6_takeWord 1 = .ok (.getfield 32, 3)) ∧ (decode cX6_takeWord 4 = .ok (.aload_n 0, 1)) ∧ (decode cX6_takeWord 5 = .ok (.getfield 61, 3)) ∧ (decode cX6_takeWord 8 = .ok (.isub, 1)) ∧ (decode cX6_takeWord 9 = .ok (.aload_n 1, 1)) ∧ (decode cX6_takeWord 10 = .ok (.invokevirtual 113, 3)) ∧ (decode cX6_takeWord 13 = .ok (.if_icmp .eq 5, 3)) := by decide +kernel
theorem dX6_takeWord_0 : decode cX6_takeWord 0 = .ok (.aload_n 0, 1) := eX6_takeWord_0.1
theorem dX6_takeWord_1 : decode cX6_takeWord 1 = .ok (.getfield 32, 3) := eX6_takeWord_0.2.1
theorem dX6_takeWord_4 : decode cX6_takeWord 4 = .ok (.aload_n 0, 1) := eX6_takeWord_0.2.2.1
theorem dX6_takeWord_5 : decode cX6_takeWord 5 = .ok (.getfield 61, 3) := eX6_takeWord_0.2.2.2.1
theorem dX6_takeWord_8 : decode cX6_takeWord 8 = .ok (.isub, 1) := eX6_takeWord_0.2.2.2.2.1
theorem dX6_takeWord_9 : decode cX6_takeWord 9 = .ok (.aload_n 1, 1) := eX6_takeWord_0.2.2.2.2.2.1
theorem dX6_takeWord_10 : decode cX6_takeWord 10 = .ok (.invokevirtual 113, 3) := eX6_takeWord_0.2.2.2.2.2.2.1
theorem dX6_takeWord_13 : decode cX6_takeWord 13 = .ok (.if_icmp .eq 5, 3) := eX6_takeWord_0.2.2.2.2.2.2.2
theorem eX6_takeWord_8 : (decode cX6_takeWord 16 = .ok (.iconst 0, 1)) ∧ (decode cX6_takeWord 17 = .ok (.ireturn, 1)) ∧ (decode cX6_takeWord 18 = .ok (.iconst 0, 1)) ∧ (decode cX6_takeWord 19 = .ok (.istore_n 2, 1)) ∧ (decode cX6_takeWord 20 = .ok (.iload_n 2, 1)) ∧ (decode cX6_takeWord 21 = .ok (.aload_n 1, 1)) ∧ (decode cX6_takeWord 22 = .ok (.invokevirtual 113, 3)) ∧ (decode cX6_takeWord 25 = .ok (.if_icmp .ge 43, 3)) := by decide +kernel
theorem dX6_takeWord_16 : decode cX6_takeWord 16 = .ok (.iconst 0, 1) := eX6_takeWord_8.1
theorem dX6_takeWord_17 : decode cX6_takeWord 17 = .ok (.ireturn, 1) := eX6_takeWord_8.2.1
theorem dX6_takeWord_18 : decode cX6_takeWord 18 = .ok (.iconst 0, 1) := eX6_takeWord_8.2.2.1
theorem dX6_takeWord_19 : decode cX6_takeWord 19 = .ok (.istore_n 2, 1) := eX6_takeWord_8.2.2.2.1
theorem dX6_takeWord_20 : decode cX6_takeWord 20 = .ok (.iload_n 2, 1) := eX6_takeWord_8.2.2.2.2.1
theorem dX6_takeWord_21 : decode cX6_takeWord 21 = .ok (.aload_n 1, 1) := eX6_takeWord_8.2.2.2.2.2.1
theorem dX6_takeWord_22 : decode cX6_takeWord 22 = .ok (.invokevirtual 113, 3) := eX6_takeWord_8.2.2.2.2.2.2.1
theorem dX6_takeWord_25 : decode cX6_takeWord 25 = .ok (.if_icmp .ge 43, 3) := eX6_takeWord_8.2.2.2.2.2.2.2
theorem eX6_takeWord_16 : (decode cX6_takeWord 28 = .ok (.aload_n 0, 1)) ∧ (decode cX6_takeWord 29 = .ok (.getfield 61, 3)) ∧ (decode cX6_takeWord 32 = .ok (.iload_n 2, 1)) ∧ (decode cX6_takeWord 33 = .ok (.iadd, 1)) ∧ (decode cX6_takeWord 34 = .ok (.aload_n 0, 1)) ∧ (decode cX6_takeWord 35 = .ok (.getfield 22, 3)) ∧ (decode cX6_takeWord 38 = .ok (.if_icmp .ge 22, 3)) ∧ (decode cX6_takeWord 41 = .ok (.aload_n 0, 1)) := by decide +kernel
theorem dX6_takeWord_28 : decode cX6_takeWord 28 = .ok (.aload_n 0, 1) := eX6_takeWord_16.1
theorem dX6_takeWord_29 : decode cX6_takeWord 29 = .ok (.getfield 61, 3) := eX6_takeWord_16.2.1
theorem dX6_takeWord_32 : decode cX6_takeWord 32 = .ok (.iload_n 2, 1) := eX6_takeWord_16.2.2.1
theorem dX6_takeWord_33 : decode cX6_takeWord 33 = .ok (.iadd, 1) := eX6_takeWord_16.2.2.2.1
theorem dX6_takeWord_34 : decode cX6_takeWord 34 = .ok (.aload_n 0, 1) := eX6_takeWord_16.2.2.2.2.1
theorem dX6_takeWord_35 : decode cX6_takeWord 35 = .ok (.getfield 22, 3) := eX6_takeWord_16.2.2.2.2.2.1
theorem dX6_takeWord_38 : decode cX6_takeWord 38 = .ok (.if_icmp .ge 22, 3) := eX6_takeWord_16.2.2.2.2.2.2.1
theorem dX6_takeWord_41 : decode cX6_takeWord 41 = .ok (.aload_n 0, 1) := eX6_takeWord_16.2.2.2.2.2.2.2
theorem eX6_takeWord_24 : (decode cX6_takeWord 42 = .ok (.getfield 11, 3)) ∧ (decode cX6_takeWord 45 = .ok (.aload_n 0, 1)) ∧ (decode cX6_takeWord 46 = .ok (.getfield 61, 3)) ∧ (decode cX6_takeWord 49 = .ok (.iload_n 2, 1)) ∧ (decode cX6_takeWord 50 = .ok (.iadd, 1)) ∧ (decode cX6_takeWord 51 = .ok (.iaload, 1)) ∧ (decode cX6_takeWord 52 = .ok (.aload_n 1, 1)) ∧ (decode cX6_takeWord 53 = .ok (.iload_n 2, 1)) := by decide +kernel
theorem dX6_takeWord_42 : decode cX6_takeWord 42 = .ok (.getfield 11, 3) := eX6_takeWord_24.1
theorem dX6_takeWord_45 : decode cX6_takeWord 45 = .ok (.aload_n 0, 1) := eX6_takeWord_24.2.1
theorem dX6_takeWord_46 : decode cX6_takeWord 46 = .ok (.getfield 61, 3) := eX6_takeWord_24.2.2.1
theorem dX6_takeWord_49 : decode cX6_takeWord 49 = .ok (.iload_n 2, 1) := eX6_takeWord_24.2.2.2.1
theorem dX6_takeWord_50 : decode cX6_takeWord 50 = .ok (.iadd, 1) := eX6_takeWord_24.2.2.2.2.1
theorem dX6_takeWord_51 : decode cX6_takeWord 51 = .ok (.iaload, 1) := eX6_takeWord_24.2.2.2.2.2.1
theorem dX6_takeWord_52 : decode cX6_takeWord 52 = .ok (.aload_n 1, 1) := eX6_takeWord_24.2.2.2.2.2.2.1
theorem dX6_takeWord_53 : decode cX6_takeWord 53 = .ok (.iload_n 2, 1) := eX6_takeWord_24.2.2.2.2.2.2.2
theorem eX6_takeWord_32 : (decode cX6_takeWord 54 = .ok (.invokevirtual 118, 3)) ∧ (decode cX6_takeWord 57 = .ok (.if_icmp .eq 5, 3)) ∧ (decode cX6_takeWord 60 = .ok (.iconst 0, 1)) ∧ (decode cX6_takeWord 61 = .ok (.ireturn, 1)) ∧ (decode cX6_takeWord 62 = .ok (.iinc 2 1, 3)) ∧ (decode cX6_takeWord 65 = .ok (.goto (-45), 3)) ∧ (decode cX6_takeWord 68 = .ok (.aload_n 0, 1)) ∧ (decode cX6_takeWord 69 = .ok (.invokevirtual 35, 3)) := by decide +kernel
theorem dX6_takeWord_54 : decode cX6_takeWord 54 = .ok (.invokevirtual 118, 3) := eX6_takeWord_32.1
theorem dX6_takeWord_57 : decode cX6_takeWord 57 = .ok (.if_icmp .eq 5, 3) := eX6_takeWord_32.2.1
theorem dX6_takeWord_60 : decode cX6_takeWord 60 = .ok (.iconst 0, 1) := eX6_takeWord_32.2.2.1
theorem dX6_takeWord_61 : decode cX6_takeWord 61 = .ok (.ireturn, 1) := eX6_takeWord_32.2.2.2.1
theorem dX6_takeWord_62 : decode cX6_takeWord 62 = .ok (.iinc 2 1, 3) := eX6_takeWord_32.2.2.2.2.1
theorem dX6_takeWord_65 : decode cX6_takeWord 65 = .ok (.goto (-45), 3) := eX6_takeWord_32.2.2.2.2.2.1
theorem dX6_takeWord_68 : decode cX6_takeWord 68 = .ok (.aload_n 0, 1) := eX6_takeWord_32.2.2.2.2.2.2.1
theorem dX6_takeWord_69 : decode cX6_takeWord 69 = .ok (.invokevirtual 35, 3) := eX6_takeWord_32.2.2.2.2.2.2.2
theorem eX6_takeWord_40 : (decode cX6_takeWord 72 = .ok (.iconst 1, 1)) ∧ (decode cX6_takeWord 73 = .ok (.ireturn, 1)) := by decide +kernel
theorem dX6_takeWord_72 : decode cX6_takeWord 72 = .ok (.iconst 1, 1) := eX6_takeWord_40.1
theorem dX6_takeWord_73 : decode cX6_takeWord 73 = .ok (.ireturn, 1) := eX6_takeWord_40.2
theorem eX6_advance_0 : (decode cX6_advance 0 = .ok (.aload_n 0, 1)) ∧ (decode cX6_advance 1 = .ok (.aload_n 0, 1)) ∧ (decode cX6_advance 2 = .ok (.getfield 32, 3)) ∧ (decode cX6_advance 5 = .ok (.putfield 61, 3)) ∧ (decode cX6_advance 8 = .ok (.aload_n 0, 1)) ∧ (decode cX6_advance 9 = .ok (.getfield 61, 3)) ∧ (decode cX6_advance 12 = .ok (.aload_n 0, 1)) ∧ (decode cX6_advance 13 = .ok (.getfield 22, 3)) := by decide +kernel
theorem dX6_advance_0 : decode cX6_advance 0 = .ok (.aload_n 0, 1) := eX6_advance_0.1
theorem dX6_advance_1 : decode cX6_advance 1 = .ok (.aload_n 0, 1) := eX6_advance_0.2.1
theorem dX6_advance_2 : decode cX6_advance 2 = .ok (.getfield 32, 3) := eX6_advance_0.2.2.1
theorem dX6_advance_5 : decode cX6_advance 5 = .ok (.putfield 61, 3) := eX6_advance_0.2.2.2.1
theorem dX6_advance_8 : decode cX6_advance 8 = .ok (.aload_n 0, 1) := eX6_advance_0.2.2.2.2.1
theorem dX6_advance_9 : decode cX6_advance 9 = .ok (.getfield 61, 3) := eX6_advance_0.2.2.2.2.2.1
theorem dX6_advance_12 : decode cX6_advance 12 = .ok (.aload_n 0, 1) := eX6_advance_0.2.2.2.2.2.2.1
theorem dX6_advance_13 : decode cX6_advance 13 = .ok (.getfield 22, 3) := eX6_advance_0.2.2.2.2.2.2.2
theorem eX6_advance_8 : (decode cX6_advance 16 = .ok (.if_icmp .ge 30, 3)) ∧ (decode cX6_advance 19 = .ok (.aload_n 0, 1)) ∧ (decode cX6_advance 20 = .ok (.getfield 11, 3)) ∧ (decode cX6_advance 23 = .ok (.aload_n 0, 1)) ∧ (decode cX6_advance 24 = .ok (.getfield 61, 3)) ∧ (decode cX6_advance 27 = .ok (.iaload, 1)) ∧ (decode cX6_advance 28 = .ok (.bipush 32, 2)) ∧ (decode cX6_advance 30 = .ok (.if_icmp .ne 16, 3)) := by decide +kernel
theorem dX6_advance_16 : decode cX6_advance 16 = .ok (.if_icmp .ge 30, 3) := eX6_advance_8.1
theorem dX6_advance_19 : decode cX6_advance 19 = .ok (.aload_n 0, 1) := eX6_advance_8.2.1
theorem dX6_advance_20 : decode cX6_advance 20 = .ok (.getfield 11, 3) := eX6_advance_8.2.2.1
theorem dX6_advance_23 : decode cX6_advance 23 = .ok (.aload_n 0, 1) := eX6_advance_8.2.2.2.1
theorem dX6_advance_24 : decode cX6_advance 24 = .ok (.getfield 61, 3) := eX6_advance_8.2.2.2.2.1
theorem dX6_advance_27 : decode cX6_advance 27 = .ok (.iaload, 1) := eX6_advance_8.2.2.2.2.2.1
theorem dX6_advance_28 : decode cX6_advance 28 = .ok (.bipush 32, 2) := eX6_advance_8.2.2.2.2.2.2.1
theorem dX6_advance_30 : decode cX6_advance 30 = .ok (.if_icmp .ne 16, 3) := eX6_advance_8.2.2.2.2.2.2.2
theorem eX6_advance_16 : (decode cX6_advance 33 = .ok (.aload_n 0, 1)) ∧ (decode cX6_advance 34 = .ok (.dup, 1)) ∧ (decode cX6_advance 35 = .ok (.getfield 61, 3)) ∧ (decode cX6_advance 38 = .ok (.iconst 1, 1)) ∧ (decode cX6_advance 39 = .ok (.iadd, 1)) ∧ (decode cX6_advance 40 = .ok (.putfield 61, 3)) ∧ (decode cX6_advance 43 = .ok (.goto (-35), 3)) ∧ (decode cX6_advance 46 = .ok (.aload_n 0, 1)) := by decide +kernel
theorem dX6_advance_33 : decode cX6_advance 33 = .ok (.aload_n 0, 1) := eX6_advance_16.1
theorem dX6_advance_34 : decode cX6_advance 34 = .ok (.dup, 1) := eX6_advance_16.2.1
theorem dX6_advance_35 : decode cX6_advance 35 = .ok (.getfield 61, 3) := eX6_advance_16.2.2.1
theorem dX6_advance_38 : decode cX6_advance 38 = .ok (.iconst 1, 1) := eX6_advance_16.2.2.2.1
theorem dX6_advance_39 : decode cX6_advance 39 = .ok (.iadd, 1) := eX6_advance_16.2.2.2.2.1
theorem dX6_advance_40 : decode cX6_advance 40 = .ok (.putfield 61, 3) := eX6_advance_16.2.2.2.2.2.1
theorem dX6_advance_43 : decode cX6_advance 43 = .ok (.goto (-35), 3) := eX6_advance_16.2.2.2.2.2.2.1
theorem dX6_advance_46 : decode cX6_advance 46 = .ok (.aload_n 0, 1) := eX6_advance_16.2.2.2.2.2.2.2
theorem eX6_advance_24 : (decode cX6_advance 47 = .ok (.aload_n 0, 1)) ∧ (decode cX6_advance 48 = .ok (.getfield 61, 3)) ∧ (decode cX6_advance 51 = .ok (.putfield 32, 3)) ∧ (decode cX6_advance 54 = .ok (.aload_n 0, 1)) ∧ (decode cX6_advance 55 = .ok (.iconst (-1), 1)) ∧ (decode cX6_advance 56 = .ok (.putfield 71, 3)) ∧ (decode cX6_advance 59 = .ok (.aload_n 0, 1)) ∧ (decode cX6_advance 60 = .ok (.getfield 61, 3)) := by decide +kernel
theorem dX6_advance_47 : decode cX6_advance 47 = .ok (.aload_n 0, 1) := eX6_advance_24.1
theorem dX6_advance_48 : decode cX6_advance 48 = .ok (.getfield 61, 3) := eX6_advance_24.2.1
theorem dX6_advance_51 : decode cX6_advance 51 = .ok (.putfield 32, 3) := eX6_advance_24.2.2.1
theorem dX6_advance_54 : decode cX6_advance 54 = .ok (.aload_n 0, 1) := eX6_advance_24.2.2.2.1
theorem dX6_advance_55 : decode cX6_advance 55 = .ok (.iconst (-1), 1) := eX6_advance_24.2.2.2.2.1
theorem dX6_advance_56 : decode cX6_advance 56 = .ok (.putfield 71, 3) := eX6_advance_24.2.2.2.2.2.1
theorem dX6_advance_59 : decode cX6_advance 59 = .ok (.aload_n 0, 1) := eX6_advance_24.2.2.2.2.2.2.1
theorem dX6_advance_60 : decode cX6_advance 60 = .ok (.getfield 61, 3) := eX6_advance_24.2.2.2.2.2.2.2
theorem eX6_advance_32 : (decode cX6_advance 63 = .ok (.aload_n 0, 1)) ∧ (decode cX6_advance 64 = .ok (.getfield 22, 3)) ∧ (decode cX6_advance 67 = .ok (.if_icmp .lt 4, 3)) ∧ (decode cX6_advance 70 = .ok (.return_, 1)) ∧ (decode cX6_advance 71 = .ok (.aload_n 0, 1)) ∧ (decode cX6_advance 72 = .ok (.getfield 11, 3)) ∧ (decode cX6_advance 75 = .ok (.aload_n 0, 1)) ∧ (decode cX6_advance 76 = .ok (.getfield 61, 3)) := by decide +kernel
theorem dX6_advance_63 : decode cX6_advance 63 = .ok (.aload_n 0, 1) := eX6_advance_32.1
theorem dX6_advance_64 : decode cX6_advance 64 = .ok (.getfield 22, 3) := eX6_advance_32.2.1
theorem dX6_advance_67 : decode cX6_advance 67 = .ok (.if_icmp .lt 4, 3) := eX6_advance_32.2.2.1
theorem dX6_advance_70 : decode cX6_advance 70 = .ok (.return_, 1) := eX6_advance_32.2.2.2.1
theorem dX6_advance_71 : decode cX6_advance 71 = .ok (.aload_n 0, 1) := eX6_advance_32.2.2.2.2.1
theorem dX6_advance_72 : decode cX6_advance 72 = .ok (.getfield 11, 3) := eX6_advance_32.2.2.2.2.2.1
theorem dX6_advance_75 : decode cX6_advance 75 = .ok (.aload_n 0, 1) := eX6_advance_32.2.2.2.2.2.2.1
theorem dX6_advance_76 : decode cX6_advance 76 = .ok (.getfield 61, 3) := eX6_advance_32.2.2.2.2.2.2.2
theorem eX6_advance_40 : (decode cX6_advance 79 = .ok (.iaload, 1)) ∧ (decode cX6_advance 80 = .ok (.istore_n 1, 1)) ∧ (decode cX6_advance 81 = .ok (.iload_n 1, 1)) ∧ (decode cX6_advance 82 = .ok (.bipush 97, 2)) ∧ (decode cX6_advance 84 = .ok (.if_icmp .lt 61, 3)) ∧ (decode cX6_advance 87 = .ok (.iload_n 1, 1)) ∧ (decode cX6_advance 88 = .ok (.bipush 122, 2)) ∧ (decode cX6_advance 90 = .ok (.if_icmp .gt 55, 3)) := by decide +kernel
theorem dX6_advance_79 : decode cX6_advance 79 = .ok (.iaload, 1) := eX6_advance_40.1
theorem dX6_advance_80 : decode cX6_advance 80 = .ok (.istore_n 1, 1) := eX6_advance_40.2.1
theorem dX6_advance_81 : decode cX6_advance 81 = .ok (.iload_n 1, 1) := eX6_advance_40.2.2.1
theorem dX6_advance_82 : decode cX6_advance 82 = .ok (.bipush 97, 2) := eX6_advance_40.2.2.2.1
theorem dX6_advance_84 : decode cX6_advance 84 = .ok (.if_icmp .lt 61, 3) := eX6_advance_40.2.2.2.2.1
theorem dX6_advance_87 : decode cX6_advance 87 = .ok (.iload_n 1, 1) := eX6_advance_40.2.2.2.2.2.1
theorem dX6_advance_88 : decode cX6_advance 88 = .ok (.bipush 122, 2) := eX6_advance_40.2.2.2.2.2.2.1
theorem dX6_advance_90 : decode cX6_advance 90 = .ok (.if_icmp .gt 55, 3) := eX6_advance_40.2.2.2.2.2.2.2
theorem eX6_advance_48 : (decode cX6_advance 93 = .ok (.aload_n 0, 1)) ∧ (decode cX6_advance 94 = .ok (.getfield 32, 3)) ∧ (decode cX6_advance 97 = .ok (.aload_n 0, 1)) ∧ (decode cX6_advance 98 = .ok (.getfield 22, 3)) ∧ (decode cX6_advance 101 = .ok (.if_icmp .ge 157, 3)) ∧ (decode cX6_advance 104 = .ok (.aload_n 0, 1)) ∧ (decode cX6_advance 105 = .ok (.getfield 11, 3)) ∧ (decode cX6_advance 108 = .ok (.aload_n 0, 1)) := by decide +kernel
theorem dX6_advance_93 : decode cX6_advance 93 = .ok (.aload_n 0, 1) := eX6_advance_48.1
theorem dX6_advance_94 : decode cX6_advance 94 = .ok (.getfield 32, 3) := eX6_advance_48.2.1
theorem dX6_advance_97 : decode cX6_advance 97 = .ok (.aload_n 0, 1) := eX6_advance_48.2.2.1
theorem dX6_advance_98 : decode cX6_advance 98 = .ok (.getfield 22, 3) := eX6_advance_48.2.2.2.1
theorem dX6_advance_101 : decode cX6_advance 101 = .ok (.if_icmp .ge 157, 3) := eX6_advance_48.2.2.2.2.1
theorem dX6_advance_104 : decode cX6_advance 104 = .ok (.aload_n 0, 1) := eX6_advance_48.2.2.2.2.2.1
theorem dX6_advance_105 : decode cX6_advance 105 = .ok (.getfield 11, 3) := eX6_advance_48.2.2.2.2.2.2.1
theorem dX6_advance_108 : decode cX6_advance 108 = .ok (.aload_n 0, 1) := eX6_advance_48.2.2.2.2.2.2.2
theorem eX6_advance_56 : (decode cX6_advance 109 = .ok (.getfield 32, 3)) ∧ (decode cX6_advance 112 = .ok (.iaload, 1)) ∧ (decode cX6_advance 113 = .ok (.bipush 97, 2)) ∧ (decode cX6_advance 115 = .ok (.if_icmp .lt 143, 3)) ∧ (decode cX6_advance 118 = .ok (.aload_n 0, 1)) ∧ (decode cX6_advance 119 = .ok (.getfield 11, 3)) ∧ (decode cX6_advance 122 = .ok (.aload_n 0, 1)) ∧ (decode cX6_advance 123 = .ok (.getfield 32, 3)) := by decide +kernel
theorem dX6_advance_109 : decode cX6_advance 109 = .ok (.getfield 32, 3) := eX6_advance_56.1
theorem dX6_advance_112 : decode cX6_advance 112 = .ok (.iaload, 1) := eX6_advance_56.2.1
theorem dX6_advance_113 : decode cX6_advance 113 = .ok (.bipush 97, 2) := eX6_advance_56.2.2.1
theorem dX6_advance_115 : decode cX6_advance 115 = .ok (.if_icmp .lt 143, 3) := eX6_advance_56.2.2.2.1
theorem dX6_advance_118 : decode cX6_advance 118 = .ok (.aload_n 0, 1) := eX6_advance_56.2.2.2.2.1
theorem dX6_advance_119 : decode cX6_advance 119 = .ok (.getfield 11, 3) := eX6_advance_56.2.2.2.2.2.1
theorem dX6_advance_122 : decode cX6_advance 122 = .ok (.aload_n 0, 1) := eX6_advance_56.2.2.2.2.2.2.1
theorem dX6_advance_123 : decode cX6_advance 123 = .ok (.getfield 32, 3) := eX6_advance_56.2.2.2.2.2.2.2
theorem eX6_advance_64 : (decode cX6_advance 126 = .ok (.iaload, 1)) ∧ (decode cX6_advance 127 = .ok (.bipush 122, 2)) ∧ (decode cX6_advance 129 = .ok (.if_icmp .gt 129, 3)) ∧ (decode cX6_advance 132 = .ok (.aload_n 0, 1)) ∧ (decode cX6_advance 133 = .ok (.dup, 1)) ∧ (decode cX6_advance 134 = .ok (.getfield 32, 3)) ∧ (decode cX6_advance 137 = .ok (.iconst 1, 1)) ∧ (decode cX6_advance 138 = .ok (.iadd, 1)) := by decide +kernel
theorem dX6_advance_126 : decode cX6_advance 126 = .ok (.iaload, 1) := eX6_advance_64.1
theorem dX6_advance_127 : decode cX6_advance 127 = .ok (.bipush 122, 2) := eX6_advance_64.2.1
theorem dX6_advance_129 : decode cX6_advance 129 = .ok (.if_icmp .gt 129, 3) := eX6_advance_64.2.2.1
theorem dX6_advance_132 : decode cX6_advance 132 = .ok (.aload_n 0, 1) := eX6_advance_64.2.2.2.1
theorem dX6_advance_133 : decode cX6_advance 133 = .ok (.dup, 1) := eX6_advance_64.2.2.2.2.1
theorem dX6_advance_134 : decode cX6_advance 134 = .ok (.getfield 32, 3) := eX6_advance_64.2.2.2.2.2.1
theorem dX6_advance_137 : decode cX6_advance 137 = .ok (.iconst 1, 1) := eX6_advance_64.2.2.2.2.2.2.1
theorem dX6_advance_138 : decode cX6_advance 138 = .ok (.iadd, 1) := eX6_advance_64.2.2.2.2.2.2.2
theorem eX6_advance_72 : (decode cX6_advance 139 = .ok (.putfield 32, 3)) ∧ (decode cX6_advance 142 = .ok (.goto (-49), 3)) ∧ (decode cX6_advance 145 = .ok (.iload_n 1, 1)) ∧ (decode cX6_advance 146 = .ok (.bipush 48, 2)) ∧ (decode cX6_advance 148 = .ok (.if_icmp .lt 100, 3)) ∧ (decode cX6_advance 151 = .ok (.iload_n 1, 1)) ∧ (decode cX6_advance 152 = .ok (.bipush 57, 2)) ∧ (decode cX6_advance 154 = .ok (.if_icmp .gt 94, 3)) := by decide +kernel
theorem dX6_advance_139 : decode cX6_advance 139 = .ok (.putfield 32, 3) := eX6_advance_72.1
theorem dX6_advance_142 : decode cX6_advance 142 = .ok (.goto (-49), 3) := eX6_advance_72.2.1
theorem dX6_advance_145 : decode cX6_advance 145 = .ok (.iload_n 1, 1) := eX6_advance_72.2.2.1
theorem dX6_advance_146 : decode cX6_advance 146 = .ok (.bipush 48, 2) := eX6_advance_72.2.2.2.1
theorem dX6_advance_148 : decode cX6_advance 148 = .ok (.if_icmp .lt 100, 3) := eX6_advance_72.2.2.2.2.1
theorem dX6_advance_151 : decode cX6_advance 151 = .ok (.iload_n 1, 1) := eX6_advance_72.2.2.2.2.2.1
theorem dX6_advance_152 : decode cX6_advance 152 = .ok (.bipush 57, 2) := eX6_advance_72.2.2.2.2.2.2.1
theorem dX6_advance_154 : decode cX6_advance 154 = .ok (.if_icmp .gt 94, 3) := eX6_advance_72.2.2.2.2.2.2.2
theorem eX6_advance_80 : (decode cX6_advance 157 = .ok (.aload_n 0, 1)) ∧ (decode cX6_advance 158 = .ok (.iconst 0, 1)) ∧ (decode cX6_advance 159 = .ok (.putfield 71, 3)) ∧ (decode cX6_advance 162 = .ok (.aload_n 0, 1)) ∧ (decode cX6_advance 163 = .ok (.getfield 32, 3)) ∧ (decode cX6_advance 166 = .ok (.aload_n 0, 1)) ∧ (decode cX6_advance 167 = .ok (.getfield 22, 3)) ∧ (decode cX6_advance 170 = .ok (.if_icmp .ge 88, 3)) := by decide +kernel
theorem dX6_advance_157 : decode cX6_advance 157 = .ok (.aload_n 0, 1) := eX6_advance_80.1
theorem dX6_advance_158 : decode cX6_advance 158 = .ok (.iconst 0, 1) := eX6_advance_80.2.1
theorem dX6_advance_159 : decode cX6_advance 159 = .ok (.putfield 71, 3) := eX6_advance_80.2.2.1
theorem dX6_advance_162 : decode cX6_advance 162 = .ok (.aload_n 0, 1) := eX6_advance_80.2.2.2.1
theorem dX6_advance_163 : decode cX6_advance 163 = .ok (.getfield 32, 3) := eX6_advance_80.2.2.2.2.1
theorem dX6_advance_166 : decode cX6_advance 166 = .ok (.aload_n 0, 1) := eX6_advance_80.2.2.2.2.2.1
theorem dX6_advance_167 : decode cX6_advance 167 = .ok (.getfield 22, 3) := eX6_advance_80.2.2.2.2.2.2.1
theorem dX6_advance_170 : decode cX6_advance 170 = .ok (.if_icmp .ge 88, 3) := eX6_advance_80.2.2.2.2.2.2.2
theorem eX6_advance_88 : (decode cX6_advance 173 = .ok (.aload_n 0, 1)) ∧ (decode cX6_advance 174 = .ok (.getfield 11, 3)) ∧ (decode cX6_advance 177 = .ok (.aload_n 0, 1)) ∧ (decode cX6_advance 178 = .ok (.getfield 32, 3)) ∧ (decode cX6_advance 181 = .ok (.iaload, 1)) ∧ (decode cX6_advance 182 = .ok (.bipush 48, 2)) ∧ (decode cX6_advance 184 = .ok (.if_icmp .lt 74, 3)) ∧ (decode cX6_advance 187 = .ok (.aload_n 0, 1)) := by decide +kernel
theorem dX6_advance_173 : decode cX6_advance 173 = .ok (.aload_n 0, 1) := eX6_advance_88.1
theorem dX6_advance_174 : decode cX6_advance 174 = .ok (.getfield 11, 3) := eX6_advance_88.2.1
theorem dX6_advance_177 : decode cX6_advance 177 = .ok (.aload_n 0, 1) := eX6_advance_88.2.2.1
theorem dX6_advance_178 : decode cX6_advance 178 = .ok (.getfield 32, 3) := eX6_advance_88.2.2.2.1
theorem dX6_advance_181 : decode cX6_advance 181 = .ok (.iaload, 1) := eX6_advance_88.2.2.2.2.1
theorem dX6_advance_182 : decode cX6_advance 182 = .ok (.bipush 48, 2) := eX6_advance_88.2.2.2.2.2.1
theorem dX6_advance_184 : decode cX6_advance 184 = .ok (.if_icmp .lt 74, 3) := eX6_advance_88.2.2.2.2.2.2.1
theorem dX6_advance_187 : decode cX6_advance 187 = .ok (.aload_n 0, 1) := eX6_advance_88.2.2.2.2.2.2.2
theorem eX6_advance_96 : (decode cX6_advance 188 = .ok (.getfield 11, 3)) ∧ (decode cX6_advance 191 = .ok (.aload_n 0, 1)) ∧ (decode cX6_advance 192 = .ok (.getfield 32, 3)) ∧ (decode cX6_advance 195 = .ok (.iaload, 1)) ∧ (decode cX6_advance 196 = .ok (.bipush 57, 2)) ∧ (decode cX6_advance 198 = .ok (.if_icmp .gt 60, 3)) ∧ (decode cX6_advance 201 = .ok (.aload_n 0, 1)) ∧ (decode cX6_advance 202 = .ok (.getfield 71, 3)) := by decide +kernel
theorem dX6_advance_188 : decode cX6_advance 188 = .ok (.getfield 11, 3) := eX6_advance_96.1
theorem dX6_advance_191 : decode cX6_advance 191 = .ok (.aload_n 0, 1) := eX6_advance_96.2.1
theorem dX6_advance_192 : decode cX6_advance 192 = .ok (.getfield 32, 3) := eX6_advance_96.2.2.1
theorem dX6_advance_195 : decode cX6_advance 195 = .ok (.iaload, 1) := eX6_advance_96.2.2.2.1
theorem dX6_advance_196 : decode cX6_advance 196 = .ok (.bipush 57, 2) := eX6_advance_96.2.2.2.2.1
theorem dX6_advance_198 : decode cX6_advance 198 = .ok (.if_icmp .gt 60, 3) := eX6_advance_96.2.2.2.2.2.1
theorem dX6_advance_201 : decode cX6_advance 201 = .ok (.aload_n 0, 1) := eX6_advance_96.2.2.2.2.2.2.1
theorem dX6_advance_202 : decode cX6_advance 202 = .ok (.getfield 71, 3) := eX6_advance_96.2.2.2.2.2.2.2
theorem eX6_advance_104 : (decode cX6_advance 205 = .ok (.sipush 1000, 3)) ∧ (decode cX6_advance 208 = .ok (.if_icmp .gt 27, 3)) ∧ (decode cX6_advance 211 = .ok (.aload_n 0, 1)) ∧ (decode cX6_advance 212 = .ok (.aload_n 0, 1)) ∧ (decode cX6_advance 213 = .ok (.getfield 71, 3)) ∧ (decode cX6_advance 216 = .ok (.bipush 10, 2)) ∧ (decode cX6_advance 218 = .ok (.imul, 1)) ∧ (decode cX6_advance 219 = .ok (.aload_n 0, 1)) := by decide +kernel
theorem dX6_advance_205 : decode cX6_advance 205 = .ok (.sipush 1000, 3) := eX6_advance_104.1
theorem dX6_advance_208 : decode cX6_advance 208 = .ok (.if_icmp .gt 27, 3) := eX6_advance_104.2.1
theorem dX6_advance_211 : decode cX6_advance 211 = .ok (.aload_n 0, 1) := eX6_advance_104.2.2.1
theorem dX6_advance_212 : decode cX6_advance 212 = .ok (.aload_n 0, 1) := eX6_advance_104.2.2.2.1
theorem dX6_advance_213 : decode cX6_advance 213 = .ok (.getfield 71, 3) := eX6_advance_104.2.2.2.2.1
theorem dX6_advance_216 : decode cX6_advance 216 = .ok (.bipush 10, 2) := eX6_advance_104.2.2.2.2.2.1
theorem dX6_advance_218 : decode cX6_advance 218 = .ok (.imul, 1) := eX6_advance_104.2.2.2.2.2.2.1
theorem dX6_advance_219 : decode cX6_advance 219 = .ok (.aload_n 0, 1) := eX6_advance_104.2.2.2.2.2.2.2
theorem eX6_advance_112 : (decode cX6_advance 220 = .ok (.getfield 11, 3)) ∧ (decode cX6_advance 223 = .ok (.aload_n 0, 1)) ∧ (decode cX6_advance 224 = .ok (.getfield 32, 3)) ∧ (decode cX6_advance 227 = .ok (.iaload, 1)) ∧ (decode cX6_advance 228 = .ok (.iadd, 1)) ∧ (decode cX6_advance 229 = .ok (.bipush 48, 2)) ∧ (decode cX6_advance 231 = .ok (.isub, 1)) ∧ (decode cX6_advance 232 = .ok (.putfield 71, 3)) := by decide +kernel
theorem dX6_advance_220 : decode cX6_advance 220 = .ok (.getfield 11, 3) := eX6_advance_112.1
theorem dX6_advance_223 : decode cX6_advance 223 = .ok (.aload_n 0, 1) := eX6_advance_112.2.1
theorem dX6_advance_224 : decode cX6_advance 224 = .ok (.getfield 32, 3) := eX6_advance_112.2.2.1
theorem dX6_advance_227 : decode cX6_advance 227 = .ok (.iaload, 1) := eX6_advance_112.2.2.2.1
theorem dX6_advance_228 : decode cX6_advance 228 = .ok (.iadd, 1) := eX6_advance_112.2.2.2.2.1
theorem dX6_advance_229 : decode cX6_advance 229 = .ok (.bipush 48, 2) := eX6_advance_112.2.2.2.2.2.1
theorem dX6_advance_231 : decode cX6_advance 231 = .ok (.isub, 1) := eX6_advance_112.2.2.2.2.2.2.1
theorem dX6_advance_232 : decode cX6_advance 232 = .ok (.putfield 71, 3) := eX6_advance_112.2.2.2.2.2.2.2
theorem eX6_advance_120 : (decode cX6_advance 235 = .ok (.aload_n 0, 1)) ∧ (decode cX6_advance 236 = .ok (.dup, 1)) ∧ (decode cX6_advance 237 = .ok (.getfield 32, 3)) ∧ (decode cX6_advance 240 = .ok (.iconst 1, 1)) ∧ (decode cX6_advance 241 = .ok (.iadd, 1)) ∧ (decode cX6_advance 242 = .ok (.putfield 32, 3)) ∧ (decode cX6_advance 245 = .ok (.goto (-83), 3)) ∧ (decode cX6_advance 248 = .ok (.aload_n 0, 1)) := by decide +kernel
theorem dX6_advance_235 : decode cX6_advance 235 = .ok (.aload_n 0, 1) := eX6_advance_120.1
theorem dX6_advance_236 : decode cX6_advance 236 = .ok (.dup, 1) := eX6_advance_120.2.1
theorem dX6_advance_237 : decode cX6_advance 237 = .ok (.getfield 32, 3) := eX6_advance_120.2.2.1
theorem dX6_advance_240 : decode cX6_advance 240 = .ok (.iconst 1, 1) := eX6_advance_120.2.2.2.1
theorem dX6_advance_241 : decode cX6_advance 241 = .ok (.iadd, 1) := eX6_advance_120.2.2.2.2.1
theorem dX6_advance_242 : decode cX6_advance 242 = .ok (.putfield 32, 3) := eX6_advance_120.2.2.2.2.2.1
theorem dX6_advance_245 : decode cX6_advance 245 = .ok (.goto (-83), 3) := eX6_advance_120.2.2.2.2.2.2.1
theorem dX6_advance_248 : decode cX6_advance 248 = .ok (.aload_n 0, 1) := eX6_advance_120.2.2.2.2.2.2.2
theorem eX6_advance_128 : (decode cX6_advance 249 = .ok (.dup, 1)) ∧ (decode cX6_advance 250 = .ok (.getfield 32, 3)) ∧ (decode cX6_advance 253 = .ok (.iconst 1, 1)) ∧ (decode cX6_advance 254 = .ok (.iadd, 1)) ∧ (decode cX6_advance 255 = .ok (.putfield 32, 3)) ∧ (decode cX6_advance 258 = .ok (.return_, 1)) := by decide +kernel
theorem dX6_advance_249 : decode cX6_advance 249 = .ok (.dup, 1) := eX6_advance_128.1
theorem dX6_advance_250 : decode cX6_advance 250 = .ok (.getfield 32, 3) := eX6_advance_128.2.1
theorem dX6_advance_253 : decode cX6_advance 253 = .ok (.iconst 1, 1) := eX6_advance_128.2.2.1
theorem dX6_advance_254 : decode cX6_advance 254 = .ok (.iadd, 1) := eX6_advance_128.2.2.2.1
theorem dX6_advance_255 : decode cX6_advance 255 = .ok (.putfield 32, 3) := eX6_advance_128.2.2.2.2.1
theorem dX6_advance_258 : decode cX6_advance 258 = .ok (.return_, 1) := eX6_advance_128.2.2.2.2.2
theorem eX7_init_0 : (decode cX7_init 0 = .ok (.aload_n 0, 1)) ∧ (decode cX7_init 1 = .ok (.invokespecial 1, 3)) ∧ (decode cX7_init 4 = .ok (.aload_n 0, 1)) ∧ (decode cX7_init 5 = .ok (.sipush 300, 3)) ∧ (decode cX7_init 8 = .ok (.newarray .int, 2)) ∧ (decode cX7_init 10 = .ok (.putfield 9, 3)) ∧ (decode cX7_init 13 = .ok (.aload_n 0, 1)) ∧ (decode cX7_init 14 = .ok (.iconst 5, 1)) := by decide +kernel
theorem dX7_init_0 : decode cX7_init 0 = .ok (.aload_n 0, 1) := eX7_init_0.1
theorem dX7_init_1 : decode cX7_init 1 = .ok (.invokespecial 1, 3) := eX7_init_0.2.1
theorem dX7_init_4 : decode cX7_init 4 = .ok (.aload_n 0, 1) := eX7_init_0.2.2.1
theorem dX7_init_5 : decode cX7_init 5 = .ok (.sipush 300, 3) := eX7_init_0.2.2.2.1
theorem dX7_init_8 : decode cX7_init 8 = .ok (.newarray .int, 2) := eX7_init_0.2.2.2.2.1
theorem dX7_init_10 : decode cX7_init 10 = .ok (.putfield 9, 3) := eX7_init_0.2.2.2.2.2.1
theorem dX7_init_13 : decode cX7_init 13 = .ok (.aload_n 0, 1) := eX7_init_0.2.2.2.2.2.2.1
theorem dX7_init_14 : decode cX7_init 14 = .ok (.iconst 5, 1) := eX7_init_0.2.2.2.2.2.2.2
theorem eX7_init_8 : (decode cX7_init 15 = .ok (.newarray .int, 2)) ∧ (decode cX7_init 17 = .ok (.putfield 13, 3)) ∧ (decode cX7_init 20 = .ok (.aload_n 0, 1)) ∧ (decode cX7_init 21 = .ok (.iconst 0, 1)) ∧ (decode cX7_init 22 = .ok (.putfield 16, 3)) ∧ (decode cX7_init 25 = .ok (.aload_n 0, 1)) ∧ (decode cX7_init 26 = .ok (.iconst 0, 1)) ∧ (decode cX7_init 27 = .ok (.putfield 20, 3)) := by decide +kernel
theorem dX7_init_15 : decode cX7_init 15 = .ok (.newarray .int, 2) := eX7_init_8.1
theorem dX7_init_17 : decode cX7_init 17 = .ok (.putfield 13, 3) := eX7_init_8.2.1
theorem dX7_init_20 : decode cX7_init 20 = .ok (.aload_n 0, 1) := eX7_init_8.2.2.1
theorem dX7_init_21 : decode cX7_init 21 = .ok (.iconst 0, 1) := eX7_init_8.2.2.2.1
theorem dX7_init_22 : decode cX7_init 22 = .ok (.putfield 16, 3) := eX7_init_8.2.2.2.2.1
theorem dX7_init_25 : decode cX7_init 25 = .ok (.aload_n 0, 1) := eX7_init_8.2.2.2.2.2.1
theorem dX7_init_26 : decode cX7_init 26 = .ok (.iconst 0, 1) := eX7_init_8.2.2.2.2.2.2.1
theorem dX7_init_27 : decode cX7_init 27 = .ok (.putfield 20, 3) := eX7_init_8.2.2.2.2.2.2.2
theorem eX7_init_16 : (decode cX7_init 30 = .ok (.aload_n 0, 1)) ∧ (decode cX7_init 31 = .ok (.iconst 0, 1)) ∧ (decode cX7_init 32 = .ok (.putfield 24, 3)) ∧ (decode cX7_init 35 = .ok (.aload_n 0, 1)) ∧ (decode cX7_init 36 = .ok (.iconst 0, 1)) ∧ (decode cX7_init 37 = .ok (.putfield 27, 3)) ∧ (decode cX7_init 40 = .ok (.return_, 1)) := by decide +kernel
theorem dX7_init_30 : decode cX7_init 30 = .ok (.aload_n 0, 1) := eX7_init_16.1
theorem dX7_init_31 : decode cX7_init 31 = .ok (.iconst 0, 1) := eX7_init_16.2.1
theorem dX7_init_32 : decode cX7_init 32 = .ok (.putfield 24, 3) := eX7_init_16.2.2.1
theorem dX7_init_35 : decode cX7_init 35 = .ok (.aload_n 0, 1) := eX7_init_16.2.2.2.1
theorem dX7_init_36 : decode cX7_init 36 = .ok (.iconst 0, 1) := eX7_init_16.2.2.2.2.1
theorem dX7_init_37 : decode cX7_init 37 = .ok (.putfield 27, 3) := eX7_init_16.2.2.2.2.2.1
theorem dX7_init_40 : decode cX7_init 40 = .ok (.return_, 1) := eX7_init_16.2.2.2.2.2.2
theorem eX7_empty_0 : (decode cX7_empty 0 = .ok (.aload_n 0, 1)) ∧ (decode cX7_empty 1 = .ok (.iconst 0, 1)) ∧ (decode cX7_empty 2 = .ok (.putfield 20, 3)) ∧ (decode cX7_empty 5 = .ok (.aload_n 0, 1)) ∧ (decode cX7_empty 6 = .ok (.iconst 0, 1)) ∧ (decode cX7_empty 7 = .ok (.putfield 24, 3)) ∧ (decode cX7_empty 10 = .ok (.aload_n 0, 1)) ∧ (decode cX7_empty 11 = .ok (.iconst 0, 1)) := by decide +kernel
theorem dX7_empty_0 : decode cX7_empty 0 = .ok (.aload_n 0, 1) := eX7_empty_0.1
theorem dX7_empty_1 : decode cX7_empty 1 = .ok (.iconst 0, 1) := eX7_empty_0.2.1
theorem dX7_empty_2 : decode cX7_empty 2 = .ok (.putfield 20, 3) := eX7_empty_0.2.2.1
theorem dX7_empty_5 : decode cX7_empty 5 = .ok (.aload_n 0, 1) := eX7_empty_0.2.2.2.1
theorem dX7_empty_6 : decode cX7_empty 6 = .ok (.iconst 0, 1) := eX7_empty_0.2.2.2.2.1
theorem dX7_empty_7 : decode cX7_empty 7 = .ok (.putfield 24, 3) := eX7_empty_0.2.2.2.2.2.1
theorem dX7_empty_10 : decode cX7_empty 10 = .ok (.aload_n 0, 1) := eX7_empty_0.2.2.2.2.2.2.1
theorem dX7_empty_11 : decode cX7_empty 11 = .ok (.iconst 0, 1) := eX7_empty_0.2.2.2.2.2.2.2
theorem eX7_empty_8 : (decode cX7_empty 12 = .ok (.putfield 27, 3)) ∧ (decode cX7_empty 15 = .ok (.return_, 1)) := by decide +kernel
theorem dX7_empty_12 : decode cX7_empty 12 = .ok (.putfield 27, 3) := eX7_empty_8.1
theorem dX7_empty_15 : decode cX7_empty 15 = .ok (.return_, 1) := eX7_empty_8.2
theorem eX7_addStep_0 : (decode cX7_addStep 0 = .ok (.aload_n 0, 1)) ∧ (decode cX7_addStep 1 = .ok (.getfield 20, 3)) ∧ (decode cX7_addStep 4 = .ok (.sipush 300, 3)) ∧ (decode cX7_addStep 7 = .ok (.if_icmp .ge 23, 3)) ∧ (decode cX7_addStep 10 = .ok (.aload_n 0, 1)) ∧ (decode cX7_addStep 11 = .ok (.getfield 9, 3)) ∧ (decode cX7_addStep 14 = .ok (.aload_n 0, 1)) ∧ (decode cX7_addStep 15 = .ok (.getfield 20, 3)) := by decide +kernel
theorem dX7_addStep_0 : decode cX7_addStep 0 = .ok (.aload_n 0, 1) := eX7_addStep_0.1
theorem dX7_addStep_1 : decode cX7_addStep 1 = .ok (.getfield 20, 3) := eX7_addStep_0.2.1
theorem dX7_addStep_4 : decode cX7_addStep 4 = .ok (.sipush 300, 3) := eX7_addStep_0.2.2.1
theorem dX7_addStep_7 : decode cX7_addStep 7 = .ok (.if_icmp .ge 23, 3) := eX7_addStep_0.2.2.2.1
theorem dX7_addStep_10 : decode cX7_addStep 10 = .ok (.aload_n 0, 1) := eX7_addStep_0.2.2.2.2.1
theorem dX7_addStep_11 : decode cX7_addStep 11 = .ok (.getfield 9, 3) := eX7_addStep_0.2.2.2.2.2.1
theorem dX7_addStep_14 : decode cX7_addStep 14 = .ok (.aload_n 0, 1) := eX7_addStep_0.2.2.2.2.2.2.1
theorem dX7_addStep_15 : decode cX7_addStep 15 = .ok (.getfield 20, 3) := eX7_addStep_0.2.2.2.2.2.2.2
theorem eX7_addStep_8 : (decode cX7_addStep 18 = .ok (.iload_n 1, 1)) ∧ (decode cX7_addStep 19 = .ok (.iastore, 1)) ∧ (decode cX7_addStep 20 = .ok (.aload_n 0, 1)) ∧ (decode cX7_addStep 21 = .ok (.dup, 1)) ∧ (decode cX7_addStep 22 = .ok (.getfield 20, 3)) ∧ (decode cX7_addStep 25 = .ok (.iconst 1, 1)) ∧ (decode cX7_addStep 26 = .ok (.iadd, 1)) ∧ (decode cX7_addStep 27 = .ok (.putfield 20, 3)) := by decide +kernel
theorem dX7_addStep_18 : decode cX7_addStep 18 = .ok (.iload_n 1, 1) := eX7_addStep_8.1
theorem dX7_addStep_19 : decode cX7_addStep 19 = .ok (.iastore, 1) := eX7_addStep_8.2.1
theorem dX7_addStep_20 : decode cX7_addStep 20 = .ok (.aload_n 0, 1) := eX7_addStep_8.2.2.1
theorem dX7_addStep_21 : decode cX7_addStep 21 = .ok (.dup, 1) := eX7_addStep_8.2.2.2.1
theorem dX7_addStep_22 : decode cX7_addStep 22 = .ok (.getfield 20, 3) := eX7_addStep_8.2.2.2.2.1
theorem dX7_addStep_25 : decode cX7_addStep 25 = .ok (.iconst 1, 1) := eX7_addStep_8.2.2.2.2.2.1
theorem dX7_addStep_26 : decode cX7_addStep 26 = .ok (.iadd, 1) := eX7_addStep_8.2.2.2.2.2.2.1
theorem dX7_addStep_27 : decode cX7_addStep 27 = .ok (.putfield 20, 3) := eX7_addStep_8.2.2.2.2.2.2.2
theorem dX7_addStep_30 : decode cX7_addStep 30 = .ok (.return_, 1) := by decide +kernel
theorem eX7_addNumber_0 : (decode cX7_addNumber 0 = .ok (.aload_n 0, 1)) ∧ (decode cX7_addNumber 1 = .ok (.getfield 24, 3)) ∧ (decode cX7_addNumber 4 = .ok (.iconst 5, 1)) ∧ (decode cX7_addNumber 5 = .ok (.if_icmp .lt 5, 3)) ∧ (decode cX7_addNumber 8 = .ok (.iconst 0, 1)) ∧ (decode cX7_addNumber 9 = .ok (.ireturn, 1)) ∧ (decode cX7_addNumber 10 = .ok (.aload_n 0, 1)) ∧ (decode cX7_addNumber 11 = .ok (.getfield 13, 3)) := by decide +kernel
theorem dX7_addNumber_0 : decode cX7_addNumber 0 = .ok (.aload_n 0, 1) := eX7_addNumber_0.1
theorem dX7_addNumber_1 : decode cX7_addNumber 1 = .ok (.getfield 24, 3) := eX7_addNumber_0.2.1
theorem dX7_addNumber_4 : decode cX7_addNumber 4 = .ok (.iconst 5, 1) := eX7_addNumber_0.2.2.1
theorem dX7_addNumber_5 : decode cX7_addNumber 5 = .ok (.if_icmp .lt 5, 3) := eX7_addNumber_0.2.2.2.1
theorem dX7_addNumber_8 : decode cX7_addNumber 8 = .ok (.iconst 0, 1) := eX7_addNumber_0.2.2.2.2.1
theorem dX7_addNumber_9 : decode cX7_addNumber 9 = .ok (.ireturn, 1) := eX7_addNumber_0.2.2.2.2.2.1
theorem dX7_addNumber_10 : decode cX7_addNumber 10 = .ok (.aload_n 0, 1) := eX7_addNumber_0.2.2.2.2.2.2.1
theorem dX7_addNumber_11 : decode cX7_addNumber 11 = .ok (.getfield 13, 3) := eX7_addNumber_0.2.2.2.2.2.2.2
theorem eX7_addNumber_8 : (decode cX7_addNumber 14 = .ok (.aload_n 0, 1)) ∧ (decode cX7_addNumber 15 = .ok (.getfield 24, 3)) ∧ (decode cX7_addNumber 18 = .ok (.iload_n 1, 1)) ∧ (decode cX7_addNumber 19 = .ok (.iastore, 1)) ∧ (decode cX7_addNumber 20 = .ok (.aload_n 0, 1)) ∧ (decode cX7_addNumber 21 = .ok (.dup, 1)) ∧ (decode cX7_addNumber 22 = .ok (.getfield 24, 3)) ∧ (decode cX7_addNumber 25 = .ok (.iconst 1, 1)) := by decide +kernel
theorem dX7_addNumber_14 : decode cX7_addNumber 14 = .ok (.aload_n 0, 1) := eX7_addNumber_8.1
theorem dX7_addNumber_15 : decode cX7_addNumber 15 = .ok (.getfield 24, 3) := eX7_addNumber_8.2.1
theorem dX7_addNumber_18 : decode cX7_addNumber 18 = .ok (.iload_n 1, 1) := eX7_addNumber_8.2.2.1
theorem dX7_addNumber_19 : decode cX7_addNumber 19 = .ok (.iastore, 1) := eX7_addNumber_8.2.2.2.1
theorem dX7_addNumber_20 : decode cX7_addNumber 20 = .ok (.aload_n 0, 1) := eX7_addNumber_8.2.2.2.2.1
theorem dX7_addNumber_21 : decode cX7_addNumber 21 = .ok (.dup, 1) := eX7_addNumber_8.2.2.2.2.2.1
theorem dX7_addNumber_22 : decode cX7_addNumber 22 = .ok (.getfield 24, 3) := eX7_addNumber_8.2.2.2.2.2.2.1
theorem dX7_addNumber_25 : decode cX7_addNumber 25 = .ok (.iconst 1, 1) := eX7_addNumber_8.2.2.2.2.2.2.2
theorem eX7_addNumber_16 : (decode cX7_addNumber 26 = .ok (.iadd, 1)) ∧ (decode cX7_addNumber 27 = .ok (.putfield 24, 3)) ∧ (decode cX7_addNumber 30 = .ok (.iconst 1, 1)) ∧ (decode cX7_addNumber 31 = .ok (.ireturn, 1)) := by decide +kernel
theorem dX7_addNumber_26 : decode cX7_addNumber 26 = .ok (.iadd, 1) := eX7_addNumber_16.1
theorem dX7_addNumber_27 : decode cX7_addNumber 27 = .ok (.putfield 24, 3) := eX7_addNumber_16.2.1
theorem dX7_addNumber_30 : decode cX7_addNumber 30 = .ok (.iconst 1, 1) := eX7_addNumber_16.2.2.1
theorem dX7_addNumber_31 : decode cX7_addNumber 31 = .ok (.ireturn, 1) := eX7_addNumber_16.2.2.2
theorem eX7_become_0 : (decode cX7_become 0 = .ok (.aload_n 1, 1)) ∧ (decode cX7_become 1 = .ok (.getfield 9, 3)) ∧ (decode cX7_become 4 = .ok (.iconst 0, 1)) ∧ (decode cX7_become 5 = .ok (.aload_n 0, 1)) ∧ (decode cX7_become 6 = .ok (.getfield 9, 3)) ∧ (decode cX7_become 9 = .ok (.iconst 0, 1)) ∧ (decode cX7_become 10 = .ok (.sipush 300, 3)) ∧ (decode cX7_become 13 = .ok (.invokestatic 30, 3)) := by decide +kernel
theorem dX7_become_0 : decode cX7_become 0 = .ok (.aload_n 1, 1) := eX7_become_0.1
theorem dX7_become_1 : decode cX7_become 1 = .ok (.getfield 9, 3) := eX7_become_0.2.1
theorem dX7_become_4 : decode cX7_become 4 = .ok (.iconst 0, 1) := eX7_become_0.2.2.1
theorem dX7_become_5 : decode cX7_become 5 = .ok (.aload_n 0, 1) := eX7_become_0.2.2.2.1
theorem dX7_become_6 : decode cX7_become 6 = .ok (.getfield 9, 3) := eX7_become_0.2.2.2.2.1
theorem dX7_become_9 : decode cX7_become 9 = .ok (.iconst 0, 1) := eX7_become_0.2.2.2.2.2.1
theorem dX7_become_10 : decode cX7_become 10 = .ok (.sipush 300, 3) := eX7_become_0.2.2.2.2.2.2.1
theorem dX7_become_13 : decode cX7_become 13 = .ok (.invokestatic 30, 3) := eX7_become_0.2.2.2.2.2.2.2
theorem eX7_become_8 : (decode cX7_become 16 = .ok (.aload_n 1, 1)) ∧ (decode cX7_become 17 = .ok (.getfield 13, 3)) ∧ (decode cX7_become 20 = .ok (.iconst 0, 1)) ∧ (decode cX7_become 21 = .ok (.aload_n 0, 1)) ∧ (decode cX7_become 22 = .ok (.getfield 13, 3)) ∧ (decode cX7_become 25 = .ok (.iconst 0, 1)) ∧ (decode cX7_become 26 = .ok (.iconst 5, 1)) ∧ (decode cX7_become 27 = .ok (.invokestatic 30, 3)) := by decide +kernel
theorem dX7_become_16 : decode cX7_become 16 = .ok (.aload_n 1, 1) := eX7_become_8.1
theorem dX7_become_17 : decode cX7_become 17 = .ok (.getfield 13, 3) := eX7_become_8.2.1
theorem dX7_become_20 : decode cX7_become 20 = .ok (.iconst 0, 1) := eX7_become_8.2.2.1
theorem dX7_become_21 : decode cX7_become 21 = .ok (.aload_n 0, 1) := eX7_become_8.2.2.2.1
theorem dX7_become_22 : decode cX7_become 22 = .ok (.getfield 13, 3) := eX7_become_8.2.2.2.2.1
theorem dX7_become_25 : decode cX7_become 25 = .ok (.iconst 0, 1) := eX7_become_8.2.2.2.2.2.1
theorem dX7_become_26 : decode cX7_become 26 = .ok (.iconst 5, 1) := eX7_become_8.2.2.2.2.2.2.1
theorem dX7_become_27 : decode cX7_become 27 = .ok (.invokestatic 30, 3) := eX7_become_8.2.2.2.2.2.2.2
theorem eX7_become_16 : (decode cX7_become 30 = .ok (.aload_n 0, 1)) ∧ (decode cX7_become 31 = .ok (.aload_n 1, 1)) ∧ (decode cX7_become 32 = .ok (.getfield 20, 3)) ∧ (decode cX7_become 35 = .ok (.putfield 20, 3)) ∧ (decode cX7_become 38 = .ok (.aload_n 0, 1)) ∧ (decode cX7_become 39 = .ok (.aload_n 1, 1)) ∧ (decode cX7_become 40 = .ok (.getfield 24, 3)) ∧ (decode cX7_become 43 = .ok (.putfield 24, 3)) := by decide +kernel
theorem dX7_become_30 : decode cX7_become 30 = .ok (.aload_n 0, 1) := eX7_become_16.1
theorem dX7_become_31 : decode cX7_become 31 = .ok (.aload_n 1, 1) := eX7_become_16.2.1
theorem dX7_become_32 : decode cX7_become 32 = .ok (.getfield 20, 3) := eX7_become_16.2.2.1
theorem dX7_become_35 : decode cX7_become 35 = .ok (.putfield 20, 3) := eX7_become_16.2.2.2.1
theorem dX7_become_38 : decode cX7_become 38 = .ok (.aload_n 0, 1) := eX7_become_16.2.2.2.2.1
theorem dX7_become_39 : decode cX7_become 39 = .ok (.aload_n 1, 1) := eX7_become_16.2.2.2.2.2.1
theorem dX7_become_40 : decode cX7_become 40 = .ok (.getfield 24, 3) := eX7_become_16.2.2.2.2.2.2.1
theorem dX7_become_43 : decode cX7_become 43 = .ok (.putfield 24, 3) := eX7_become_16.2.2.2.2.2.2.2
theorem eX7_become_24 : (decode cX7_become 46 = .ok (.aload_n 0, 1)) ∧ (decode cX7_become 47 = .ok (.aload_n 1, 1)) ∧ (decode cX7_become 48 = .ok (.getfield 27, 3)) ∧ (decode cX7_become 51 = .ok (.putfield 27, 3)) ∧ (decode cX7_become 54 = .ok (.aload_n 0, 1)) ∧ (decode cX7_become 55 = .ok (.iconst 1, 1)) ∧ (decode cX7_become 56 = .ok (.putfield 16, 3)) ∧ (decode cX7_become 59 = .ok (.return_, 1)) := by decide +kernel
theorem dX7_become_46 : decode cX7_become 46 = .ok (.aload_n 0, 1) := eX7_become_24.1
theorem dX7_become_47 : decode cX7_become 47 = .ok (.aload_n 1, 1) := eX7_become_24.2.1
theorem dX7_become_48 : decode cX7_become 48 = .ok (.getfield 27, 3) := eX7_become_24.2.2.1
theorem dX7_become_51 : decode cX7_become 51 = .ok (.putfield 27, 3) := eX7_become_24.2.2.2.1
theorem dX7_become_54 : decode cX7_become 54 = .ok (.aload_n 0, 1) := eX7_become_24.2.2.2.2.1
theorem dX7_become_55 : decode cX7_become 55 = .ok (.iconst 1, 1) := eX7_become_24.2.2.2.2.2.1
theorem dX7_become_56 : decode cX7_become 56 = .ok (.putfield 16, 3) := eX7_become_24.2.2.2.2.2.2.1
theorem dX7_become_59 : decode cX7_become 59 = .ok (.return_, 1) := eX7_become_24.2.2.2.2.2.2.2
theorem eX7_pointsAt_0 : (decode cX7_pointsAt 0 = .ok (.iload_n 1, 1)) ∧ (decode cX7_pointsAt 1 = .ok (.ifCond .lt 20, 3)) ∧ (decode cX7_pointsAt 4 = .ok (.iload_n 1, 1)) ∧ (decode cX7_pointsAt 5 = .ok (.aload_n 0, 1)) ∧ (decode cX7_pointsAt 6 = .ok (.getfield 24, 3)) ∧ (decode cX7_pointsAt 9 = .ok (.if_icmp .ge 12, 3)) ∧ (decode cX7_pointsAt 12 = .ok (.aload_n 0, 1)) ∧ (decode cX7_pointsAt 13 = .ok (.getfield 13, 3)) := by decide +kernel
theorem dX7_pointsAt_0 : decode cX7_pointsAt 0 = .ok (.iload_n 1, 1) := eX7_pointsAt_0.1
theorem dX7_pointsAt_1 : decode cX7_pointsAt 1 = .ok (.ifCond .lt 20, 3) := eX7_pointsAt_0.2.1
theorem dX7_pointsAt_4 : decode cX7_pointsAt 4 = .ok (.iload_n 1, 1) := eX7_pointsAt_0.2.2.1
theorem dX7_pointsAt_5 : decode cX7_pointsAt 5 = .ok (.aload_n 0, 1) := eX7_pointsAt_0.2.2.2.1
theorem dX7_pointsAt_6 : decode cX7_pointsAt 6 = .ok (.getfield 24, 3) := eX7_pointsAt_0.2.2.2.2.1
theorem dX7_pointsAt_9 : decode cX7_pointsAt 9 = .ok (.if_icmp .ge 12, 3) := eX7_pointsAt_0.2.2.2.2.2.1
theorem dX7_pointsAt_12 : decode cX7_pointsAt 12 = .ok (.aload_n 0, 1) := eX7_pointsAt_0.2.2.2.2.2.2.1
theorem dX7_pointsAt_13 : decode cX7_pointsAt 13 = .ok (.getfield 13, 3) := eX7_pointsAt_0.2.2.2.2.2.2.2
theorem eX7_pointsAt_8 : (decode cX7_pointsAt 16 = .ok (.iload_n 1, 1)) ∧ (decode cX7_pointsAt 17 = .ok (.iaload, 1)) ∧ (decode cX7_pointsAt 18 = .ok (.goto 4, 3)) ∧ (decode cX7_pointsAt 21 = .ok (.iconst 0, 1)) ∧ (decode cX7_pointsAt 22 = .ok (.ireturn, 1)) := by decide +kernel
theorem dX7_pointsAt_16 : decode cX7_pointsAt 16 = .ok (.iload_n 1, 1) := eX7_pointsAt_8.1
theorem dX7_pointsAt_17 : decode cX7_pointsAt 17 = .ok (.iaload, 1) := eX7_pointsAt_8.2.1
theorem dX7_pointsAt_18 : decode cX7_pointsAt 18 = .ok (.goto 4, 3) := eX7_pointsAt_8.2.2.1
theorem dX7_pointsAt_21 : decode cX7_pointsAt 21 = .ok (.iconst 0, 1) := eX7_pointsAt_8.2.2.2.1
theorem dX7_pointsAt_22 : decode cX7_pointsAt 22 = .ok (.ireturn, 1) := eX7_pointsAt_8.2.2.2.2
theorem eX7_holds_0 : (decode cX7_holds 0 = .ok (.lconst 0, 1)) ∧ (decode cX7_holds 1 = .ok (.lstore 4, 2)) ∧ (decode cX7_holds 3 = .ok (.iconst 0, 1)) ∧ (decode cX7_holds 4 = .ok (.istore 6, 2)) ∧ (decode cX7_holds 6 = .ok (.iload 6, 2)) ∧ (decode cX7_holds 8 = .ok (.aload_n 0, 1)) ∧ (decode cX7_holds 9 = .ok (.getfield 20, 3)) ∧ (decode cX7_holds 12 = .ok (.if_icmp .ge 137, 3)) := by decide +kernel
theorem dX7_holds_0 : decode cX7_holds 0 = .ok (.lconst 0, 1) := eX7_holds_0.1
theorem dX7_holds_1 : decode cX7_holds 1 = .ok (.lstore 4, 2) := eX7_holds_0.2.1
theorem dX7_holds_3 : decode cX7_holds 3 = .ok (.iconst 0, 1) := eX7_holds_0.2.2.1
theorem dX7_holds_4 : decode cX7_holds 4 = .ok (.istore 6, 2) := eX7_holds_0.2.2.2.1
theorem dX7_holds_6 : decode cX7_holds 6 = .ok (.iload 6, 2) := eX7_holds_0.2.2.2.2.1
theorem dX7_holds_8 : decode cX7_holds 8 = .ok (.aload_n 0, 1) := eX7_holds_0.2.2.2.2.2.1
theorem dX7_holds_9 : decode cX7_holds 9 = .ok (.getfield 20, 3) := eX7_holds_0.2.2.2.2.2.2.1
theorem dX7_holds_12 : decode cX7_holds 12 = .ok (.if_icmp .ge 137, 3) := eX7_holds_0.2.2.2.2.2.2.2
theorem eX7_holds_8 : (decode cX7_holds 15 = .ok (.aload_n 0, 1)) ∧ (decode cX7_holds 16 = .ok (.getfield 9, 3)) ∧ (decode cX7_holds 19 = .ok (.iload 6, 2)) ∧ (decode cX7_holds 21 = .ok (.iaload, 1)) ∧ (decode cX7_holds 22 = .ok (.istore 7, 2)) ∧ (decode cX7_holds 24 = .ok (.iload 7, 2)) ∧ (decode cX7_holds 26 = .ok (.iconst 2, 1)) ∧ (decode cX7_holds 27 = .ok (.if_icmp .ne 12, 3)) := by decide +kernel
theorem dX7_holds_15 : decode cX7_holds 15 = .ok (.aload_n 0, 1) := eX7_holds_8.1
theorem dX7_holds_16 : decode cX7_holds 16 = .ok (.getfield 9, 3) := eX7_holds_8.2.1
theorem dX7_holds_19 : decode cX7_holds 19 = .ok (.iload 6, 2) := eX7_holds_8.2.2.1
theorem dX7_holds_21 : decode cX7_holds 21 = .ok (.iaload, 1) := eX7_holds_8.2.2.2.1
theorem dX7_holds_22 : decode cX7_holds 22 = .ok (.istore 7, 2) := eX7_holds_8.2.2.2.2.1
theorem dX7_holds_24 : decode cX7_holds 24 = .ok (.iload 7, 2) := eX7_holds_8.2.2.2.2.2.1
theorem dX7_holds_26 : decode cX7_holds 26 = .ok (.iconst 2, 1) := eX7_holds_8.2.2.2.2.2.2.1
theorem dX7_holds_27 : decode cX7_holds 27 = .ok (.if_icmp .ne 12, 3) := eX7_holds_8.2.2.2.2.2.2.2
theorem eX7_holds_16 : (decode cX7_holds 30 = .ok (.lload 4, 2)) ∧ (decode cX7_holds 32 = .ok (.lconst 1, 1)) ∧ (decode cX7_holds 33 = .ok (.lxor, 1)) ∧ (decode cX7_holds 34 = .ok (.lstore 4, 2)) ∧ (decode cX7_holds 36 = .ok (.goto 107, 3)) ∧ (decode cX7_holds 39 = .ok (.iload 7, 2)) ∧ (decode cX7_holds 41 = .ok (.iconst 3, 1)) ∧ (decode cX7_holds 42 = .ok (.if_icmp .eq 9, 3)) := by decide +kernel
theorem dX7_holds_30 : decode cX7_holds 30 = .ok (.lload 4, 2) := eX7_holds_16.1
theorem dX7_holds_32 : decode cX7_holds 32 = .ok (.lconst 1, 1) := eX7_holds_16.2.1
theorem dX7_holds_33 : decode cX7_holds 33 = .ok (.lxor, 1) := eX7_holds_16.2.2.1
theorem dX7_holds_34 : decode cX7_holds 34 = .ok (.lstore 4, 2) := eX7_holds_16.2.2.2.1
theorem dX7_holds_36 : decode cX7_holds 36 = .ok (.goto 107, 3) := eX7_holds_16.2.2.2.2.1
theorem dX7_holds_39 : decode cX7_holds 39 = .ok (.iload 7, 2) := eX7_holds_16.2.2.2.2.2.1
theorem dX7_holds_41 : decode cX7_holds 41 = .ok (.iconst 3, 1) := eX7_holds_16.2.2.2.2.2.2.1
theorem dX7_holds_42 : decode cX7_holds 42 = .ok (.if_icmp .eq 9, 3) := eX7_holds_16.2.2.2.2.2.2.2
theorem eX7_holds_24 : (decode cX7_holds 45 = .ok (.iload 7, 2)) ∧ (decode cX7_holds 47 = .ok (.iconst 4, 1)) ∧ (decode cX7_holds 48 = .ok (.if_icmp .ne 43, 3)) ∧ (decode cX7_holds 51 = .ok (.lload 4, 2)) ∧ (decode cX7_holds 53 = .ok (.lconst 1, 1)) ∧ (decode cX7_holds 54 = .ok (.land, 1)) ∧ (decode cX7_holds 55 = .ok (.lstore 8, 2)) ∧ (decode cX7_holds 57 = .ok (.lload 4, 2)) := by decide +kernel
theorem dX7_holds_45 : decode cX7_holds 45 = .ok (.iload 7, 2) := eX7_holds_24.1
theorem dX7_holds_47 : decode cX7_holds 47 = .ok (.iconst 4, 1) := eX7_holds_24.2.1
theorem dX7_holds_48 : decode cX7_holds 48 = .ok (.if_icmp .ne 43, 3) := eX7_holds_24.2.2.1
theorem dX7_holds_51 : decode cX7_holds 51 = .ok (.lload 4, 2) := eX7_holds_24.2.2.2.1
theorem dX7_holds_53 : decode cX7_holds 53 = .ok (.lconst 1, 1) := eX7_holds_24.2.2.2.2.1
theorem dX7_holds_54 : decode cX7_holds 54 = .ok (.land, 1) := eX7_holds_24.2.2.2.2.2.1
theorem dX7_holds_55 : decode cX7_holds 55 = .ok (.lstore 8, 2) := eX7_holds_24.2.2.2.2.2.2.1
theorem dX7_holds_57 : decode cX7_holds 57 = .ok (.lload 4, 2) := eX7_holds_24.2.2.2.2.2.2.2
theorem eX7_holds_32 : (decode cX7_holds 59 = .ok (.iconst 1, 1)) ∧ (decode cX7_holds 60 = .ok (.lshr, 1)) ∧ (decode cX7_holds 61 = .ok (.lstore 10, 2)) ∧ (decode cX7_holds 63 = .ok (.iload 7, 2)) ∧ (decode cX7_holds 65 = .ok (.iconst 3, 1)) ∧ (decode cX7_holds 66 = .ok (.if_icmp .ne 15, 3)) ∧ (decode cX7_holds 69 = .ok (.lload 10, 2)) ∧ (decode cX7_holds 71 = .ok (.lload 8, 2)) := by decide +kernel
theorem dX7_holds_59 : decode cX7_holds 59 = .ok (.iconst 1, 1) := eX7_holds_32.1
theorem dX7_holds_60 : decode cX7_holds 60 = .ok (.lshr, 1) := eX7_holds_32.2.1
theorem dX7_holds_61 : decode cX7_holds 61 = .ok (.lstore 10, 2) := eX7_holds_32.2.2.1
theorem dX7_holds_63 : decode cX7_holds 63 = .ok (.iload 7, 2) := eX7_holds_32.2.2.2.1
theorem dX7_holds_65 : decode cX7_holds 65 = .ok (.iconst 3, 1) := eX7_holds_32.2.2.2.2.1
theorem dX7_holds_66 : decode cX7_holds 66 = .ok (.if_icmp .ne 15, 3) := eX7_holds_32.2.2.2.2.2.1
theorem dX7_holds_69 : decode cX7_holds 69 = .ok (.lload 10, 2) := eX7_holds_32.2.2.2.2.2.2.1
theorem dX7_holds_71 : decode cX7_holds 71 = .ok (.lload 8, 2) := eX7_holds_32.2.2.2.2.2.2.2
theorem eX7_holds_40 : (decode cX7_holds 73 = .ok (.ldc2_w 36, 3)) ∧ (decode cX7_holds 76 = .ok (.lor, 1)) ∧ (decode cX7_holds 77 = .ok (.land, 1)) ∧ (decode cX7_holds 78 = .ok (.goto 8, 3)) ∧ (decode cX7_holds 81 = .ok (.lload 10, 2)) ∧ (decode cX7_holds 83 = .ok (.lload 8, 2)) ∧ (decode cX7_holds 85 = .ok (.lor, 1)) ∧ (decode cX7_holds 86 = .ok (.lstore 4, 2)) := by decide +kernel
theorem dX7_holds_73 : decode cX7_holds 73 = .ok (.ldc2_w 36, 3) := eX7_holds_40.1
theorem dX7_holds_76 : decode cX7_holds 76 = .ok (.lor, 1) := eX7_holds_40.2.1
theorem dX7_holds_77 : decode cX7_holds 77 = .ok (.land, 1) := eX7_holds_40.2.2.1
theorem dX7_holds_78 : decode cX7_holds 78 = .ok (.goto 8, 3) := eX7_holds_40.2.2.2.1
theorem dX7_holds_81 : decode cX7_holds 81 = .ok (.lload 10, 2) := eX7_holds_40.2.2.2.2.1
theorem dX7_holds_83 : decode cX7_holds 83 = .ok (.lload 8, 2) := eX7_holds_40.2.2.2.2.2.1
theorem dX7_holds_85 : decode cX7_holds 85 = .ok (.lor, 1) := eX7_holds_40.2.2.2.2.2.2.1
theorem dX7_holds_86 : decode cX7_holds 86 = .ok (.lstore 4, 2) := eX7_holds_40.2.2.2.2.2.2.2
theorem eX7_holds_48 : (decode cX7_holds 88 = .ok (.goto 55, 3)) ∧ (decode cX7_holds 91 = .ok (.iload 7, 2)) ∧ (decode cX7_holds 93 = .ok (.ifCond .ne 7, 3)) ∧ (decode cX7_holds 96 = .ok (.iload_n 1, 1)) ∧ (decode cX7_holds 97 = .ok (.goto 26, 3)) ∧ (decode cX7_holds 100 = .ok (.iload 7, 2)) ∧ (decode cX7_holds 102 = .ok (.iconst 1, 1)) ∧ (decode cX7_holds 103 = .ok (.if_icmp .ne 7, 3)) := by decide +kernel
theorem dX7_holds_88 : decode cX7_holds 88 = .ok (.goto 55, 3) := eX7_holds_48.1
theorem dX7_holds_91 : decode cX7_holds 91 = .ok (.iload 7, 2) := eX7_holds_48.2.1
theorem dX7_holds_93 : decode cX7_holds 93 = .ok (.ifCond .ne 7, 3) := eX7_holds_48.2.2.1
theorem dX7_holds_96 : decode cX7_holds 96 = .ok (.iload_n 1, 1) := eX7_holds_48.2.2.2.1
theorem dX7_holds_97 : decode cX7_holds 97 = .ok (.goto 26, 3) := eX7_holds_48.2.2.2.2.1
theorem dX7_holds_100 : decode cX7_holds 100 = .ok (.iload 7, 2) := eX7_holds_48.2.2.2.2.2.1
theorem dX7_holds_102 : decode cX7_holds 102 = .ok (.iconst 1, 1) := eX7_holds_48.2.2.2.2.2.2.1
theorem dX7_holds_103 : decode cX7_holds 103 = .ok (.if_icmp .ne 7, 3) := eX7_holds_48.2.2.2.2.2.2.2
theorem eX7_holds_56 : (decode cX7_holds 106 = .ok (.iload_n 2, 1)) ∧ (decode cX7_holds 107 = .ok (.goto 16, 3)) ∧ (decode cX7_holds 110 = .ok (.iload_n 3, 1)) ∧ (decode cX7_holds 111 = .ok (.iload 7, 2)) ∧ (decode cX7_holds 113 = .ok (.iconst 5, 1)) ∧ (decode cX7_holds 114 = .ok (.isub, 1)) ∧ (decode cX7_holds 115 = .ok (.if_icmp .lt 7, 3)) ∧ (decode cX7_holds 118 = .ok (.iconst 1, 1)) := by decide +kernel
theorem dX7_holds_106 : decode cX7_holds 106 = .ok (.iload_n 2, 1) := eX7_holds_56.1
theorem dX7_holds_107 : decode cX7_holds 107 = .ok (.goto 16, 3) := eX7_holds_56.2.1
theorem dX7_holds_110 : decode cX7_holds 110 = .ok (.iload_n 3, 1) := eX7_holds_56.2.2.1
theorem dX7_holds_111 : decode cX7_holds 111 = .ok (.iload 7, 2) := eX7_holds_56.2.2.2.1
theorem dX7_holds_113 : decode cX7_holds 113 = .ok (.iconst 5, 1) := eX7_holds_56.2.2.2.2.1
theorem dX7_holds_114 : decode cX7_holds 114 = .ok (.isub, 1) := eX7_holds_56.2.2.2.2.2.1
theorem dX7_holds_115 : decode cX7_holds 115 = .ok (.if_icmp .lt 7, 3) := eX7_holds_56.2.2.2.2.2.2.1
theorem dX7_holds_118 : decode cX7_holds 118 = .ok (.iconst 1, 1) := eX7_holds_56.2.2.2.2.2.2.2
theorem eX7_holds_64 : (decode cX7_holds 119 = .ok (.goto 4, 3)) ∧ (decode cX7_holds 122 = .ok (.iconst 0, 1)) ∧ (decode cX7_holds 123 = .ok (.istore 8, 2)) ∧ (decode cX7_holds 125 = .ok (.lload 4, 2)) ∧ (decode cX7_holds 127 = .ok (.iconst 1, 1)) ∧ (decode cX7_holds 128 = .ok (.lshl, 1)) ∧ (decode cX7_holds 129 = .ok (.iload 8, 2)) ∧ (decode cX7_holds 131 = .ok (.ifCond .eq 7, 3)) := by decide +kernel
theorem dX7_holds_119 : decode cX7_holds 119 = .ok (.goto 4, 3) := eX7_holds_64.1
theorem dX7_holds_122 : decode cX7_holds 122 = .ok (.iconst 0, 1) := eX7_holds_64.2.1
theorem dX7_holds_123 : decode cX7_holds 123 = .ok (.istore 8, 2) := eX7_holds_64.2.2.1
theorem dX7_holds_125 : decode cX7_holds 125 = .ok (.lload 4, 2) := eX7_holds_64.2.2.2.1
theorem dX7_holds_127 : decode cX7_holds 127 = .ok (.iconst 1, 1) := eX7_holds_64.2.2.2.2.1
theorem dX7_holds_128 : decode cX7_holds 128 = .ok (.lshl, 1) := eX7_holds_64.2.2.2.2.2.1
theorem dX7_holds_129 : decode cX7_holds 129 = .ok (.iload 8, 2) := eX7_holds_64.2.2.2.2.2.2.1
theorem dX7_holds_131 : decode cX7_holds 131 = .ok (.ifCond .eq 7, 3) := eX7_holds_64.2.2.2.2.2.2.2
theorem eX7_holds_72 : (decode cX7_holds 134 = .ok (.iconst 1, 1)) ∧ (decode cX7_holds 135 = .ok (.goto 4, 3)) ∧ (decode cX7_holds 138 = .ok (.iconst 0, 1)) ∧ (decode cX7_holds 139 = .ok (.i2l, 1)) ∧ (decode cX7_holds 140 = .ok (.lor, 1)) ∧ (decode cX7_holds 141 = .ok (.lstore 4, 2)) ∧ (decode cX7_holds 143 = .ok (.iinc 6 1, 3)) ∧ (decode cX7_holds 146 = .ok (.goto (-140), 3)) := by decide +kernel
theorem dX7_holds_134 : decode cX7_holds 134 = .ok (.iconst 1, 1) := eX7_holds_72.1
theorem dX7_holds_135 : decode cX7_holds 135 = .ok (.goto 4, 3) := eX7_holds_72.2.1
theorem dX7_holds_138 : decode cX7_holds 138 = .ok (.iconst 0, 1) := eX7_holds_72.2.2.1
theorem dX7_holds_139 : decode cX7_holds 139 = .ok (.i2l, 1) := eX7_holds_72.2.2.2.1
theorem dX7_holds_140 : decode cX7_holds 140 = .ok (.lor, 1) := eX7_holds_72.2.2.2.2.1
theorem dX7_holds_141 : decode cX7_holds 141 = .ok (.lstore 4, 2) := eX7_holds_72.2.2.2.2.2.1
theorem dX7_holds_143 : decode cX7_holds 143 = .ok (.iinc 6 1, 3) := eX7_holds_72.2.2.2.2.2.2.1
theorem dX7_holds_146 : decode cX7_holds 146 = .ok (.goto (-140), 3) := eX7_holds_72.2.2.2.2.2.2.2
theorem eX7_holds_80 : (decode cX7_holds 149 = .ok (.lload 4, 2)) ∧ (decode cX7_holds 151 = .ok (.lconst 1, 1)) ∧ (decode cX7_holds 152 = .ok (.land, 1)) ∧ (decode cX7_holds 153 = .ok (.lconst 1, 1)) ∧ (decode cX7_holds 154 = .ok (.lcmp, 1)) ∧ (decode cX7_holds 155 = .ok (.ifCond .ne 7, 3)) ∧ (decode cX7_holds 158 = .ok (.iconst 1, 1)) ∧ (decode cX7_holds 159 = .ok (.goto 4, 3)) := by decide +kernel
theorem dX7_holds_149 : decode cX7_holds 149 = .ok (.lload 4, 2) := eX7_holds_80.1
theorem dX7_holds_151 : decode cX7_holds 151 = .ok (.lconst 1, 1) := eX7_holds_80.2.1
theorem dX7_holds_152 : decode cX7_holds 152 = .ok (.land, 1) := eX7_holds_80.2.2.1
theorem dX7_holds_153 : decode cX7_holds 153 = .ok (.lconst 1, 1) := eX7_holds_80.2.2.2.1
theorem dX7_holds_154 : decode cX7_holds 154 = .ok (.lcmp, 1) := eX7_holds_80.2.2.2.2.1
theorem dX7_holds_155 : decode cX7_holds 155 = .ok (.ifCond .ne 7, 3) := eX7_holds_80.2.2.2.2.2.1
theorem dX7_holds_158 : decode cX7_holds 158 = .ok (.iconst 1, 1) := eX7_holds_80.2.2.2.2.2.2.1
theorem dX7_holds_159 : decode cX7_holds 159 = .ok (.goto 4, 3) := eX7_holds_80.2.2.2.2.2.2.2
theorem eX7_holds_88 : (decode cX7_holds 162 = .ok (.iconst 0, 1)) ∧ (decode cX7_holds 163 = .ok (.ireturn, 1)) := by decide +kernel
theorem dX7_holds_162 : decode cX7_holds 162 = .ok (.iconst 0, 1) := eX7_holds_88.1
theorem dX7_holds_163 : decode cX7_holds 163 = .ok (.ireturn, 1) := eX7_holds_88.2
theorem eX8_init_0 : (decode cX8_init 0 = .ok (.aload_n 0, 1)) ∧ (decode cX8_init 1 = .ok (.invokespecial 3, 3)) ∧ (decode cX8_init 4 = .ok (.aload_n 0, 1)) ∧ (decode cX8_init 5 = .ok (.bipush 60, 2)) ∧ (decode cX8_init 7 = .ok (.newarray .int, 2)) ∧ (decode cX8_init 9 = .ok (.putfield 9, 3)) ∧ (decode cX8_init 12 = .ok (.aload_n 0, 1)) ∧ (decode cX8_init 13 = .ok (.bipush 60, 2)) := by decide +kernel
theorem dX8_init_0 : decode cX8_init 0 = .ok (.aload_n 0, 1) := eX8_init_0.1
theorem dX8_init_1 : decode cX8_init 1 = .ok (.invokespecial 3, 3) := eX8_init_0.2.1
theorem dX8_init_4 : decode cX8_init 4 = .ok (.aload_n 0, 1) := eX8_init_0.2.2.1
theorem dX8_init_5 : decode cX8_init 5 = .ok (.bipush 60, 2) := eX8_init_0.2.2.2.1
theorem dX8_init_7 : decode cX8_init 7 = .ok (.newarray .int, 2) := eX8_init_0.2.2.2.2.1
theorem dX8_init_9 : decode cX8_init 9 = .ok (.putfield 9, 3) := eX8_init_0.2.2.2.2.2.1
theorem dX8_init_12 : decode cX8_init 12 = .ok (.aload_n 0, 1) := eX8_init_0.2.2.2.2.2.2.1
theorem dX8_init_13 : decode cX8_init 13 = .ok (.bipush 60, 2) := eX8_init_0.2.2.2.2.2.2.2
theorem eX8_init_8 : (decode cX8_init 15 = .ok (.newarray .int, 2)) ∧ (decode cX8_init 17 = .ok (.putfield 15, 3)) ∧ (decode cX8_init 20 = .ok (.aload_n 0, 1)) ∧ (decode cX8_init 21 = .ok (.bipush 60, 2)) ∧ (decode cX8_init 23 = .ok (.newarray .int, 2)) ∧ (decode cX8_init 25 = .ok (.putfield 18, 3)) ∧ (decode cX8_init 28 = .ok (.aload_n 0, 1)) ∧ (decode cX8_init 29 = .ok (.bipush 60, 2)) := by decide +kernel
theorem dX8_init_15 : decode cX8_init 15 = .ok (.newarray .int, 2) := eX8_init_8.1
theorem dX8_init_17 : decode cX8_init 17 = .ok (.putfield 15, 3) := eX8_init_8.2.1
theorem dX8_init_20 : decode cX8_init 20 = .ok (.aload_n 0, 1) := eX8_init_8.2.2.1
theorem dX8_init_21 : decode cX8_init 21 = .ok (.bipush 60, 2) := eX8_init_8.2.2.2.1
theorem dX8_init_23 : decode cX8_init 23 = .ok (.newarray .int, 2) := eX8_init_8.2.2.2.2.1
theorem dX8_init_25 : decode cX8_init 25 = .ok (.putfield 18, 3) := eX8_init_8.2.2.2.2.2.1
theorem dX8_init_28 : decode cX8_init 28 = .ok (.aload_n 0, 1) := eX8_init_8.2.2.2.2.2.2.1
theorem dX8_init_29 : decode cX8_init 29 = .ok (.bipush 60, 2) := eX8_init_8.2.2.2.2.2.2.2
theorem eX8_init_16 : (decode cX8_init 31 = .ok (.newarray .int, 2)) ∧ (decode cX8_init 33 = .ok (.putfield 21, 3)) ∧ (decode cX8_init 36 = .ok (.aload_n 0, 1)) ∧ (decode cX8_init 37 = .ok (.bipush 60, 2)) ∧ (decode cX8_init 39 = .ok (.newarray .int, 2)) ∧ (decode cX8_init 41 = .ok (.putfield 24, 3)) ∧ (decode cX8_init 44 = .ok (.aload_n 0, 1)) ∧ (decode cX8_init 45 = .ok (.bipush 60, 2)) := by decide +kernel
theorem dX8_init_31 : decode cX8_init 31 = .ok (.newarray .int, 2) := eX8_init_16.1
theorem dX8_init_33 : decode cX8_init 33 = .ok (.putfield 21, 3) := eX8_init_16.2.1
theorem dX8_init_36 : decode cX8_init 36 = .ok (.aload_n 0, 1) := eX8_init_16.2.2.1
theorem dX8_init_37 : decode cX8_init 37 = .ok (.bipush 60, 2) := eX8_init_16.2.2.2.1
theorem dX8_init_39 : decode cX8_init 39 = .ok (.newarray .int, 2) := eX8_init_16.2.2.2.2.1
theorem dX8_init_41 : decode cX8_init 41 = .ok (.putfield 24, 3) := eX8_init_16.2.2.2.2.2.1
theorem dX8_init_44 : decode cX8_init 44 = .ok (.aload_n 0, 1) := eX8_init_16.2.2.2.2.2.2.1
theorem dX8_init_45 : decode cX8_init 45 = .ok (.bipush 60, 2) := eX8_init_16.2.2.2.2.2.2.2
theorem eX8_init_24 : (decode cX8_init 47 = .ok (.newarray .int, 2)) ∧ (decode cX8_init 49 = .ok (.putfield 27, 3)) ∧ (decode cX8_init 52 = .ok (.aload_n 0, 1)) ∧ (decode cX8_init 53 = .ok (.bipush 60, 2)) ∧ (decode cX8_init 55 = .ok (.newarray .boolean, 2)) ∧ (decode cX8_init 57 = .ok (.putfield 30, 3)) ∧ (decode cX8_init 60 = .ok (.aload_n 0, 1)) ∧ (decode cX8_init 61 = .ok (.sipush 3060, 3)) := by decide +kernel
theorem dX8_init_47 : decode cX8_init 47 = .ok (.newarray .int, 2) := eX8_init_24.1
theorem dX8_init_49 : decode cX8_init 49 = .ok (.putfield 27, 3) := eX8_init_24.2.1
theorem dX8_init_52 : decode cX8_init 52 = .ok (.aload_n 0, 1) := eX8_init_24.2.2.1
theorem dX8_init_53 : decode cX8_init 53 = .ok (.bipush 60, 2) := eX8_init_24.2.2.2.1
theorem dX8_init_55 : decode cX8_init 55 = .ok (.newarray .boolean, 2) := eX8_init_24.2.2.2.2.1
theorem dX8_init_57 : decode cX8_init 57 = .ok (.putfield 30, 3) := eX8_init_24.2.2.2.2.2.1
theorem dX8_init_60 : decode cX8_init 60 = .ok (.aload_n 0, 1) := eX8_init_24.2.2.2.2.2.2.1
theorem dX8_init_61 : decode cX8_init 61 = .ok (.sipush 3060, 3) := eX8_init_24.2.2.2.2.2.2.2
theorem eX8_init_32 : (decode cX8_init 64 = .ok (.newarray .int, 2)) ∧ (decode cX8_init 66 = .ok (.putfield 34, 3)) ∧ (decode cX8_init 69 = .ok (.aload_n 0, 1)) ∧ (decode cX8_init 70 = .ok (.iconst 0, 1)) ∧ (decode cX8_init 71 = .ok (.putfield 37, 3)) ∧ (decode cX8_init 74 = .ok (.return_, 1)) := by decide +kernel
theorem dX8_init_64 : decode cX8_init 64 = .ok (.newarray .int, 2) := eX8_init_32.1
theorem dX8_init_66 : decode cX8_init 66 = .ok (.putfield 34, 3) := eX8_init_32.2.1
theorem dX8_init_69 : decode cX8_init 69 = .ok (.aload_n 0, 1) := eX8_init_32.2.2.1
theorem dX8_init_70 : decode cX8_init 70 = .ok (.iconst 0, 1) := eX8_init_32.2.2.2.1
theorem dX8_init_71 : decode cX8_init 71 = .ok (.putfield 37, 3) := eX8_init_32.2.2.2.2.1
theorem dX8_init_74 : decode cX8_init 74 = .ok (.return_, 1) := eX8_init_32.2.2.2.2.2
theorem eX8_has_0 : (decode cX8_has 0 = .ok (.iload_n 1, 1)) ∧ (decode cX8_has 1 = .ok (.ifCond .lt 24, 3)) ∧ (decode cX8_has 4 = .ok (.iload_n 1, 1)) ∧ (decode cX8_has 5 = .ok (.aload_n 0, 1)) ∧ (decode cX8_has 6 = .ok (.getfield 37, 3)) ∧ (decode cX8_has 9 = .ok (.if_icmp .ge 16, 3)) ∧ (decode cX8_has 12 = .ok (.aload_n 0, 1)) ∧ (decode cX8_has 13 = .ok (.getfield 30, 3)) := by decide +kernel
theorem dX8_has_0 : decode cX8_has 0 = .ok (.iload_n 1, 1) := eX8_has_0.1
theorem dX8_has_1 : decode cX8_has 1 = .ok (.ifCond .lt 24, 3) := eX8_has_0.2.1
theorem dX8_has_4 : decode cX8_has 4 = .ok (.iload_n 1, 1) := eX8_has_0.2.2.1
theorem dX8_has_5 : decode cX8_has 5 = .ok (.aload_n 0, 1) := eX8_has_0.2.2.2.1
theorem dX8_has_6 : decode cX8_has 6 = .ok (.getfield 37, 3) := eX8_has_0.2.2.2.2.1
theorem dX8_has_9 : decode cX8_has 9 = .ok (.if_icmp .ge 16, 3) := eX8_has_0.2.2.2.2.2.1
theorem dX8_has_12 : decode cX8_has 12 = .ok (.aload_n 0, 1) := eX8_has_0.2.2.2.2.2.2.1
theorem dX8_has_13 : decode cX8_has 13 = .ok (.getfield 30, 3) := eX8_has_0.2.2.2.2.2.2.2
theorem eX8_has_8 : (decode cX8_has 16 = .ok (.iload_n 1, 1)) ∧ (decode cX8_has 17 = .ok (.baload, 1)) ∧ (decode cX8_has 18 = .ok (.ifCond .eq 7, 3)) ∧ (decode cX8_has 21 = .ok (.iconst 1, 1)) ∧ (decode cX8_has 22 = .ok (.goto 4, 3)) ∧ (decode cX8_has 25 = .ok (.iconst 0, 1)) ∧ (decode cX8_has 26 = .ok (.ireturn, 1)) := by decide +kernel
theorem dX8_has_16 : decode cX8_has 16 = .ok (.iload_n 1, 1) := eX8_has_8.1
theorem dX8_has_17 : decode cX8_has 17 = .ok (.baload, 1) := eX8_has_8.2.1
theorem dX8_has_18 : decode cX8_has 18 = .ok (.ifCond .eq 7, 3) := eX8_has_8.2.2.1
theorem dX8_has_21 : decode cX8_has 21 = .ok (.iconst 1, 1) := eX8_has_8.2.2.2.1
theorem dX8_has_22 : decode cX8_has 22 = .ok (.goto 4, 3) := eX8_has_8.2.2.2.2.1
theorem dX8_has_25 : decode cX8_has 25 = .ok (.iconst 0, 1) := eX8_has_8.2.2.2.2.2.1
theorem dX8_has_26 : decode cX8_has 26 = .ok (.ireturn, 1) := eX8_has_8.2.2.2.2.2.2
theorem eX8_add_0 : (decode cX8_add 0 = .ok (.aload_n 0, 1)) ∧ (decode cX8_add 1 = .ok (.getfield 37, 3)) ∧ (decode cX8_add 4 = .ok (.bipush 60, 2)) ∧ (decode cX8_add 6 = .ok (.if_icmp .lt 6, 3)) ∧ (decode cX8_add 9 = .ok (.bipush (-5), 2)) ∧ (decode cX8_add 11 = .ok (.ireturn, 1)) ∧ (decode cX8_add 12 = .ok (.aload_n 0, 1)) ∧ (decode cX8_add 13 = .ok (.getfield 9, 3)) := by decide +kernel
theorem dX8_add_0 : decode cX8_add 0 = .ok (.aload_n 0, 1) := eX8_add_0.1
theorem dX8_add_1 : decode cX8_add 1 = .ok (.getfield 37, 3) := eX8_add_0.2.1
theorem dX8_add_4 : decode cX8_add 4 = .ok (.bipush 60, 2) := eX8_add_0.2.2.1
theorem dX8_add_6 : decode cX8_add 6 = .ok (.if_icmp .lt 6, 3) := eX8_add_0.2.2.2.1
theorem dX8_add_9 : decode cX8_add 9 = .ok (.bipush (-5), 2) := eX8_add_0.2.2.2.2.1
theorem dX8_add_11 : decode cX8_add 11 = .ok (.ireturn, 1) := eX8_add_0.2.2.2.2.2.1
theorem dX8_add_12 : decode cX8_add 12 = .ok (.aload_n 0, 1) := eX8_add_0.2.2.2.2.2.2.1
theorem dX8_add_13 : decode cX8_add 13 = .ok (.getfield 9, 3) := eX8_add_0.2.2.2.2.2.2.2
theorem eX8_add_8 : (decode cX8_add 16 = .ok (.aload_n 0, 1)) ∧ (decode cX8_add 17 = .ok (.getfield 37, 3)) ∧ (decode cX8_add 20 = .ok (.iload_n 1, 1)) ∧ (decode cX8_add 21 = .ok (.iastore, 1)) ∧ (decode cX8_add 22 = .ok (.aload_n 0, 1)) ∧ (decode cX8_add 23 = .ok (.getfield 15, 3)) ∧ (decode cX8_add 26 = .ok (.aload_n 0, 1)) ∧ (decode cX8_add 27 = .ok (.getfield 37, 3)) := by decide +kernel
theorem dX8_add_16 : decode cX8_add 16 = .ok (.aload_n 0, 1) := eX8_add_8.1
theorem dX8_add_17 : decode cX8_add 17 = .ok (.getfield 37, 3) := eX8_add_8.2.1
theorem dX8_add_20 : decode cX8_add 20 = .ok (.iload_n 1, 1) := eX8_add_8.2.2.1
theorem dX8_add_21 : decode cX8_add 21 = .ok (.iastore, 1) := eX8_add_8.2.2.2.1
theorem dX8_add_22 : decode cX8_add 22 = .ok (.aload_n 0, 1) := eX8_add_8.2.2.2.2.1
theorem dX8_add_23 : decode cX8_add 23 = .ok (.getfield 15, 3) := eX8_add_8.2.2.2.2.2.1
theorem dX8_add_26 : decode cX8_add 26 = .ok (.aload_n 0, 1) := eX8_add_8.2.2.2.2.2.2.1
theorem dX8_add_27 : decode cX8_add 27 = .ok (.getfield 37, 3) := eX8_add_8.2.2.2.2.2.2.2
theorem eX8_add_16 : (decode cX8_add 30 = .ok (.iload_n 2, 1)) ∧ (decode cX8_add 31 = .ok (.iastore, 1)) ∧ (decode cX8_add 32 = .ok (.aload_n 0, 1)) ∧ (decode cX8_add 33 = .ok (.getfield 18, 3)) ∧ (decode cX8_add 36 = .ok (.aload_n 0, 1)) ∧ (decode cX8_add 37 = .ok (.getfield 37, 3)) ∧ (decode cX8_add 40 = .ok (.iload_n 3, 1)) ∧ (decode cX8_add 41 = .ok (.iastore, 1)) := by decide +kernel
theorem dX8_add_30 : decode cX8_add 30 = .ok (.iload_n 2, 1) := eX8_add_16.1
theorem dX8_add_31 : decode cX8_add 31 = .ok (.iastore, 1) := eX8_add_16.2.1
theorem dX8_add_32 : decode cX8_add 32 = .ok (.aload_n 0, 1) := eX8_add_16.2.2.1
theorem dX8_add_33 : decode cX8_add 33 = .ok (.getfield 18, 3) := eX8_add_16.2.2.2.1
theorem dX8_add_36 : decode cX8_add 36 = .ok (.aload_n 0, 1) := eX8_add_16.2.2.2.2.1
theorem dX8_add_37 : decode cX8_add 37 = .ok (.getfield 37, 3) := eX8_add_16.2.2.2.2.2.1
theorem dX8_add_40 : decode cX8_add 40 = .ok (.iload_n 3, 1) := eX8_add_16.2.2.2.2.2.2.1
theorem dX8_add_41 : decode cX8_add 41 = .ok (.iastore, 1) := eX8_add_16.2.2.2.2.2.2.2
theorem eX8_add_24 : (decode cX8_add 42 = .ok (.aload_n 0, 1)) ∧ (decode cX8_add 43 = .ok (.getfield 21, 3)) ∧ (decode cX8_add 46 = .ok (.aload_n 0, 1)) ∧ (decode cX8_add 47 = .ok (.getfield 37, 3)) ∧ (decode cX8_add 50 = .ok (.iload 4, 2)) ∧ (decode cX8_add 52 = .ok (.iastore, 1)) ∧ (decode cX8_add 53 = .ok (.aload_n 0, 1)) ∧ (decode cX8_add 54 = .ok (.getfield 24, 3)) := by decide +kernel
theorem dX8_add_42 : decode cX8_add 42 = .ok (.aload_n 0, 1) := eX8_add_24.1
theorem dX8_add_43 : decode cX8_add 43 = .ok (.getfield 21, 3) := eX8_add_24.2.1
theorem dX8_add_46 : decode cX8_add 46 = .ok (.aload_n 0, 1) := eX8_add_24.2.2.1
theorem dX8_add_47 : decode cX8_add 47 = .ok (.getfield 37, 3) := eX8_add_24.2.2.2.1
theorem dX8_add_50 : decode cX8_add 50 = .ok (.iload 4, 2) := eX8_add_24.2.2.2.2.1
theorem dX8_add_52 : decode cX8_add 52 = .ok (.iastore, 1) := eX8_add_24.2.2.2.2.2.1
theorem dX8_add_53 : decode cX8_add 53 = .ok (.aload_n 0, 1) := eX8_add_24.2.2.2.2.2.2.1
theorem dX8_add_54 : decode cX8_add 54 = .ok (.getfield 24, 3) := eX8_add_24.2.2.2.2.2.2.2
theorem eX8_add_32 : (decode cX8_add 57 = .ok (.aload_n 0, 1)) ∧ (decode cX8_add 58 = .ok (.getfield 37, 3)) ∧ (decode cX8_add 61 = .ok (.iload 5, 2)) ∧ (decode cX8_add 63 = .ok (.iastore, 1)) ∧ (decode cX8_add 64 = .ok (.aload_n 0, 1)) ∧ (decode cX8_add 65 = .ok (.getfield 30, 3)) ∧ (decode cX8_add 68 = .ok (.aload_n 0, 1)) ∧ (decode cX8_add 69 = .ok (.getfield 37, 3)) := by decide +kernel
theorem dX8_add_57 : decode cX8_add 57 = .ok (.aload_n 0, 1) := eX8_add_32.1
theorem dX8_add_58 : decode cX8_add 58 = .ok (.getfield 37, 3) := eX8_add_32.2.1
theorem dX8_add_61 : decode cX8_add 61 = .ok (.iload 5, 2) := eX8_add_32.2.2.1
theorem dX8_add_63 : decode cX8_add 63 = .ok (.iastore, 1) := eX8_add_32.2.2.2.1
theorem dX8_add_64 : decode cX8_add 64 = .ok (.aload_n 0, 1) := eX8_add_32.2.2.2.2.1
theorem dX8_add_65 : decode cX8_add 65 = .ok (.getfield 30, 3) := eX8_add_32.2.2.2.2.2.1
theorem dX8_add_68 : decode cX8_add 68 = .ok (.aload_n 0, 1) := eX8_add_32.2.2.2.2.2.2.1
theorem dX8_add_69 : decode cX8_add 69 = .ok (.getfield 37, 3) := eX8_add_32.2.2.2.2.2.2.2
theorem eX8_add_40 : (decode cX8_add 72 = .ok (.iconst 1, 1)) ∧ (decode cX8_add 73 = .ok (.bastore, 1)) ∧ (decode cX8_add 74 = .ok (.aload_n 0, 1)) ∧ (decode cX8_add 75 = .ok (.dup, 1)) ∧ (decode cX8_add 76 = .ok (.getfield 37, 3)) ∧ (decode cX8_add 79 = .ok (.iconst 1, 1)) ∧ (decode cX8_add 80 = .ok (.iadd, 1)) ∧ (decode cX8_add 81 = .ok (.putfield 37, 3)) := by decide +kernel
theorem dX8_add_72 : decode cX8_add 72 = .ok (.iconst 1, 1) := eX8_add_40.1
theorem dX8_add_73 : decode cX8_add 73 = .ok (.bastore, 1) := eX8_add_40.2.1
theorem dX8_add_74 : decode cX8_add 74 = .ok (.aload_n 0, 1) := eX8_add_40.2.2.1
theorem dX8_add_75 : decode cX8_add 75 = .ok (.dup, 1) := eX8_add_40.2.2.2.1
theorem dX8_add_76 : decode cX8_add 76 = .ok (.getfield 37, 3) := eX8_add_40.2.2.2.2.1
theorem dX8_add_79 : decode cX8_add 79 = .ok (.iconst 1, 1) := eX8_add_40.2.2.2.2.2.1
theorem dX8_add_80 : decode cX8_add 80 = .ok (.iadd, 1) := eX8_add_40.2.2.2.2.2.2.1
theorem dX8_add_81 : decode cX8_add 81 = .ok (.putfield 37, 3) := eX8_add_40.2.2.2.2.2.2.2
theorem eX8_add_48 : (decode cX8_add 84 = .ok (.aload_n 0, 1)) ∧ (decode cX8_add 85 = .ok (.getfield 37, 3)) ∧ (decode cX8_add 88 = .ok (.iconst 1, 1)) ∧ (decode cX8_add 89 = .ok (.isub, 1)) ∧ (decode cX8_add 90 = .ok (.ireturn, 1)) := by decide +kernel
theorem dX8_add_84 : decode cX8_add 84 = .ok (.aload_n 0, 1) := eX8_add_48.1
theorem dX8_add_85 : decode cX8_add 85 = .ok (.getfield 37, 3) := eX8_add_48.2.1
theorem dX8_add_88 : decode cX8_add 88 = .ok (.iconst 1, 1) := eX8_add_48.2.2.1
theorem dX8_add_89 : decode cX8_add 89 = .ok (.isub, 1) := eX8_add_48.2.2.2.1
theorem dX8_add_90 : decode cX8_add 90 = .ok (.ireturn, 1) := eX8_add_48.2.2.2.2
theorem eX8_move_0 : (decode cX8_move 0 = .ok (.aload_n 0, 1)) ∧ (decode cX8_move 1 = .ok (.getfield 21, 3)) ∧ (decode cX8_move 4 = .ok (.iload_n 1, 1)) ∧ (decode cX8_move 5 = .ok (.iaload, 1)) ∧ (decode cX8_move 6 = .ok (.aload_n 0, 1)) ∧ (decode cX8_move 7 = .ok (.getfield 18, 3)) ∧ (decode cX8_move 10 = .ok (.iload_n 1, 1)) ∧ (decode cX8_move 11 = .ok (.iaload, 1)) := by decide +kernel
theorem dX8_move_0 : decode cX8_move 0 = .ok (.aload_n 0, 1) := eX8_move_0.1
theorem dX8_move_1 : decode cX8_move 1 = .ok (.getfield 21, 3) := eX8_move_0.2.1
theorem dX8_move_4 : decode cX8_move 4 = .ok (.iload_n 1, 1) := eX8_move_0.2.2.1
theorem dX8_move_5 : decode cX8_move 5 = .ok (.iaload, 1) := eX8_move_0.2.2.2.1
theorem dX8_move_6 : decode cX8_move 6 = .ok (.aload_n 0, 1) := eX8_move_0.2.2.2.2.1
theorem dX8_move_7 : decode cX8_move 7 = .ok (.getfield 18, 3) := eX8_move_0.2.2.2.2.2.1
theorem dX8_move_10 : decode cX8_move 10 = .ok (.iload_n 1, 1) := eX8_move_0.2.2.2.2.2.2.1
theorem dX8_move_11 : decode cX8_move 11 = .ok (.iaload, 1) := eX8_move_0.2.2.2.2.2.2.2
theorem eX8_move_8 : (decode cX8_move 12 = .ok (.isub, 1)) ∧ (decode cX8_move 13 = .ok (.istore 4, 2)) ∧ (decode cX8_move 15 = .ok (.aload_n 0, 1)) ∧ (decode cX8_move 16 = .ok (.getfield 15, 3)) ∧ (decode cX8_move 19 = .ok (.iload_n 1, 1)) ∧ (decode cX8_move 20 = .ok (.iload_n 2, 1)) ∧ (decode cX8_move 21 = .ok (.iastore, 1)) ∧ (decode cX8_move 22 = .ok (.aload_n 0, 1)) := by decide +kernel
theorem dX8_move_12 : decode cX8_move 12 = .ok (.isub, 1) := eX8_move_8.1
theorem dX8_move_13 : decode cX8_move 13 = .ok (.istore 4, 2) := eX8_move_8.2.1
theorem dX8_move_15 : decode cX8_move 15 = .ok (.aload_n 0, 1) := eX8_move_8.2.2.1
theorem dX8_move_16 : decode cX8_move 16 = .ok (.getfield 15, 3) := eX8_move_8.2.2.2.1
theorem dX8_move_19 : decode cX8_move 19 = .ok (.iload_n 1, 1) := eX8_move_8.2.2.2.2.1
theorem dX8_move_20 : decode cX8_move 20 = .ok (.iload_n 2, 1) := eX8_move_8.2.2.2.2.2.1
theorem dX8_move_21 : decode cX8_move 21 = .ok (.iastore, 1) := eX8_move_8.2.2.2.2.2.2.1
theorem dX8_move_22 : decode cX8_move 22 = .ok (.aload_n 0, 1) := eX8_move_8.2.2.2.2.2.2.2
theorem eX8_move_16 : (decode cX8_move 23 = .ok (.getfield 18, 3)) ∧ (decode cX8_move 26 = .ok (.iload_n 1, 1)) ∧ (decode cX8_move 27 = .ok (.iload_n 3, 1)) ∧ (decode cX8_move 28 = .ok (.iastore, 1)) ∧ (decode cX8_move 29 = .ok (.aload_n 0, 1)) ∧ (decode cX8_move 30 = .ok (.getfield 21, 3)) ∧ (decode cX8_move 33 = .ok (.iload_n 1, 1)) ∧ (decode cX8_move 34 = .ok (.iload_n 3, 1)) := by decide +kernel
theorem dX8_move_23 : decode cX8_move 23 = .ok (.getfield 18, 3) := eX8_move_16.1
theorem dX8_move_26 : decode cX8_move 26 = .ok (.iload_n 1, 1) := eX8_move_16.2.1
theorem dX8_move_27 : decode cX8_move 27 = .ok (.iload_n 3, 1) := eX8_move_16.2.2.1
theorem dX8_move_28 : decode cX8_move 28 = .ok (.iastore, 1) := eX8_move_16.2.2.2.1
theorem dX8_move_29 : decode cX8_move 29 = .ok (.aload_n 0, 1) := eX8_move_16.2.2.2.2.1
theorem dX8_move_30 : decode cX8_move 30 = .ok (.getfield 21, 3) := eX8_move_16.2.2.2.2.2.1
theorem dX8_move_33 : decode cX8_move 33 = .ok (.iload_n 1, 1) := eX8_move_16.2.2.2.2.2.2.1
theorem dX8_move_34 : decode cX8_move 34 = .ok (.iload_n 3, 1) := eX8_move_16.2.2.2.2.2.2.2
theorem eX8_move_24 : (decode cX8_move 35 = .ok (.iload 4, 2)) ∧ (decode cX8_move 37 = .ok (.iadd, 1)) ∧ (decode cX8_move 38 = .ok (.iastore, 1)) ∧ (decode cX8_move 39 = .ok (.return_, 1)) := by decide +kernel
theorem dX8_move_35 : decode cX8_move 35 = .ok (.iload 4, 2) := eX8_move_24.1
theorem dX8_move_37 : decode cX8_move 37 = .ok (.iadd, 1) := eX8_move_24.2.1
theorem dX8_move_38 : decode cX8_move 38 = .ok (.iastore, 1) := eX8_move_24.2.2.1
theorem dX8_move_39 : decode cX8_move 39 = .ok (.return_, 1) := eX8_move_24.2.2.2
theorem eX8_runsWithin_0 : (decode cX8_runsWithin 0 = .ok (.aload_n 0, 1)) ∧ (decode cX8_runsWithin 1 = .ok (.getfield 18, 3)) ∧ (decode cX8_runsWithin 4 = .ok (.iload_n 1, 1)) ∧ (decode cX8_runsWithin 5 = .ok (.iaload, 1)) ∧ (decode cX8_runsWithin 6 = .ok (.iload_n 3, 1)) ∧ (decode cX8_runsWithin 7 = .ok (.if_icmp .ge 17, 3)) ∧ (decode cX8_runsWithin 10 = .ok (.aload_n 0, 1)) ∧ (decode cX8_runsWithin 11 = .ok (.getfield 21, 3)) := by decide +kernel
theorem dX8_runsWithin_0 : decode cX8_runsWithin 0 = .ok (.aload_n 0, 1) := eX8_runsWithin_0.1
theorem dX8_runsWithin_1 : decode cX8_runsWithin 1 = .ok (.getfield 18, 3) := eX8_runsWithin_0.2.1
theorem dX8_runsWithin_4 : decode cX8_runsWithin 4 = .ok (.iload_n 1, 1) := eX8_runsWithin_0.2.2.1
theorem dX8_runsWithin_5 : decode cX8_runsWithin 5 = .ok (.iaload, 1) := eX8_runsWithin_0.2.2.2.1
theorem dX8_runsWithin_6 : decode cX8_runsWithin 6 = .ok (.iload_n 3, 1) := eX8_runsWithin_0.2.2.2.2.1
theorem dX8_runsWithin_7 : decode cX8_runsWithin 7 = .ok (.if_icmp .ge 17, 3) := eX8_runsWithin_0.2.2.2.2.2.1
theorem dX8_runsWithin_10 : decode cX8_runsWithin 10 = .ok (.aload_n 0, 1) := eX8_runsWithin_0.2.2.2.2.2.2.1
theorem dX8_runsWithin_11 : decode cX8_runsWithin 11 = .ok (.getfield 21, 3) := eX8_runsWithin_0.2.2.2.2.2.2.2
theorem eX8_runsWithin_8 : (decode cX8_runsWithin 14 = .ok (.iload_n 1, 1)) ∧ (decode cX8_runsWithin 15 = .ok (.iaload, 1)) ∧ (decode cX8_runsWithin 16 = .ok (.iload_n 2, 1)) ∧ (decode cX8_runsWithin 17 = .ok (.if_icmp .le 7, 3)) ∧ (decode cX8_runsWithin 20 = .ok (.iconst 1, 1)) ∧ (decode cX8_runsWithin 21 = .ok (.goto 4, 3)) ∧ (decode cX8_runsWithin 24 = .ok (.iconst 0, 1)) ∧ (decode cX8_runsWithin 25 = .ok (.ireturn, 1)) := by decide +kernel
theorem dX8_runsWithin_14 : decode cX8_runsWithin 14 = .ok (.iload_n 1, 1) := eX8_runsWithin_8.1
theorem dX8_runsWithin_15 : decode cX8_runsWithin 15 = .ok (.iaload, 1) := eX8_runsWithin_8.2.1
theorem dX8_runsWithin_16 : decode cX8_runsWithin 16 = .ok (.iload_n 2, 1) := eX8_runsWithin_8.2.2.1
theorem dX8_runsWithin_17 : decode cX8_runsWithin 17 = .ok (.if_icmp .le 7, 3) := eX8_runsWithin_8.2.2.2.1
theorem dX8_runsWithin_20 : decode cX8_runsWithin 20 = .ok (.iconst 1, 1) := eX8_runsWithin_8.2.2.2.2.1
theorem dX8_runsWithin_21 : decode cX8_runsWithin 21 = .ok (.goto 4, 3) := eX8_runsWithin_8.2.2.2.2.2.1
theorem dX8_runsWithin_24 : decode cX8_runsWithin 24 = .ok (.iconst 0, 1) := eX8_runsWithin_8.2.2.2.2.2.2.1
theorem dX8_runsWithin_25 : decode cX8_runsWithin 25 = .ok (.ireturn, 1) := eX8_runsWithin_8.2.2.2.2.2.2.2
theorem eX8_manyThere_0 : (decode cX8_manyThere 0 = .ok (.iconst 0, 1)) ∧ (decode cX8_manyThere 1 = .ok (.istore_n 1, 1)) ∧ (decode cX8_manyThere 2 = .ok (.iconst 0, 1)) ∧ (decode cX8_manyThere 3 = .ok (.istore_n 2, 1)) ∧ (decode cX8_manyThere 4 = .ok (.iload_n 2, 1)) ∧ (decode cX8_manyThere 5 = .ok (.aload_n 0, 1)) ∧ (decode cX8_manyThere 6 = .ok (.getfield 37, 3)) ∧ (decode cX8_manyThere 9 = .ok (.if_icmp .ge 21, 3)) := by decide +kernel
theorem dX8_manyThere_0 : decode cX8_manyThere 0 = .ok (.iconst 0, 1) := eX8_manyThere_0.1
theorem dX8_manyThere_1 : decode cX8_manyThere 1 = .ok (.istore_n 1, 1) := eX8_manyThere_0.2.1
theorem dX8_manyThere_2 : decode cX8_manyThere 2 = .ok (.iconst 0, 1) := eX8_manyThere_0.2.2.1
theorem dX8_manyThere_3 : decode cX8_manyThere 3 = .ok (.istore_n 2, 1) := eX8_manyThere_0.2.2.2.1
theorem dX8_manyThere_4 : decode cX8_manyThere 4 = .ok (.iload_n 2, 1) := eX8_manyThere_0.2.2.2.2.1
theorem dX8_manyThere_5 : decode cX8_manyThere 5 = .ok (.aload_n 0, 1) := eX8_manyThere_0.2.2.2.2.2.1
theorem dX8_manyThere_6 : decode cX8_manyThere 6 = .ok (.getfield 37, 3) := eX8_manyThere_0.2.2.2.2.2.2.1
theorem dX8_manyThere_9 : decode cX8_manyThere 9 = .ok (.if_icmp .ge 21, 3) := eX8_manyThere_0.2.2.2.2.2.2.2
theorem eX8_manyThere_8 : (decode cX8_manyThere 12 = .ok (.aload_n 0, 1)) ∧ (decode cX8_manyThere 13 = .ok (.getfield 30, 3)) ∧ (decode cX8_manyThere 16 = .ok (.iload_n 2, 1)) ∧ (decode cX8_manyThere 17 = .ok (.baload, 1)) ∧ (decode cX8_manyThere 18 = .ok (.ifCond .eq 6, 3)) ∧ (decode cX8_manyThere 21 = .ok (.iinc 1 1, 3)) ∧ (decode cX8_manyThere 24 = .ok (.iinc 2 1, 3)) ∧ (decode cX8_manyThere 27 = .ok (.goto (-23), 3)) := by decide +kernel
theorem dX8_manyThere_12 : decode cX8_manyThere 12 = .ok (.aload_n 0, 1) := eX8_manyThere_8.1
theorem dX8_manyThere_13 : decode cX8_manyThere 13 = .ok (.getfield 30, 3) := eX8_manyThere_8.2.1
theorem dX8_manyThere_16 : decode cX8_manyThere 16 = .ok (.iload_n 2, 1) := eX8_manyThere_8.2.2.1
theorem dX8_manyThere_17 : decode cX8_manyThere 17 = .ok (.baload, 1) := eX8_manyThere_8.2.2.2.1
theorem dX8_manyThere_18 : decode cX8_manyThere 18 = .ok (.ifCond .eq 6, 3) := eX8_manyThere_8.2.2.2.2.1
theorem dX8_manyThere_21 : decode cX8_manyThere 21 = .ok (.iinc 1 1, 3) := eX8_manyThere_8.2.2.2.2.2.1
theorem dX8_manyThere_24 : decode cX8_manyThere 24 = .ok (.iinc 2 1, 3) := eX8_manyThere_8.2.2.2.2.2.2.1
theorem dX8_manyThere_27 : decode cX8_manyThere 27 = .ok (.goto (-23), 3) := eX8_manyThere_8.2.2.2.2.2.2.2
theorem eX8_manyThere_16 : (decode cX8_manyThere 30 = .ok (.iload_n 1, 1)) ∧ (decode cX8_manyThere 31 = .ok (.ireturn, 1)) := by decide +kernel
theorem dX8_manyThere_30 : decode cX8_manyThere 30 = .ok (.iload_n 1, 1) := eX8_manyThere_16.1
theorem dX8_manyThere_31 : decode cX8_manyThere 31 = .ok (.ireturn, 1) := eX8_manyThere_16.2
theorem eX9_init_0 : (decode cX9_init 0 = .ok (.aload_n 0, 1)) ∧ (decode cX9_init 1 = .ok (.invokespecial 3, 3)) ∧ (decode cX9_init 4 = .ok (.aload_n 0, 1)) ∧ (decode cX9_init 5 = .ok (.bipush 24, 2)) ∧ (decode cX9_init 7 = .ok (.newarray .int, 2)) ∧ (decode cX9_init 9 = .ok (.putfield 9, 3)) ∧ (decode cX9_init 12 = .ok (.aload_n 0, 1)) ∧ (decode cX9_init 13 = .ok (.bipush 10, 2)) := by decide +kernel
theorem dX9_init_0 : decode cX9_init 0 = .ok (.aload_n 0, 1) := eX9_init_0.1
theorem dX9_init_1 : decode cX9_init 1 = .ok (.invokespecial 3, 3) := eX9_init_0.2.1
theorem dX9_init_4 : decode cX9_init 4 = .ok (.aload_n 0, 1) := eX9_init_0.2.2.1
theorem dX9_init_5 : decode cX9_init 5 = .ok (.bipush 24, 2) := eX9_init_0.2.2.2.1
theorem dX9_init_7 : decode cX9_init 7 = .ok (.newarray .int, 2) := eX9_init_0.2.2.2.2.1
theorem dX9_init_9 : decode cX9_init 9 = .ok (.putfield 9, 3) := eX9_init_0.2.2.2.2.2.1
theorem dX9_init_12 : decode cX9_init 12 = .ok (.aload_n 0, 1) := eX9_init_0.2.2.2.2.2.2.1
theorem dX9_init_13 : decode cX9_init 13 = .ok (.bipush 10, 2) := eX9_init_0.2.2.2.2.2.2.2
theorem eX9_init_8 : (decode cX9_init 15 = .ok (.newarray .int, 2)) ∧ (decode cX9_init 17 = .ok (.putfield 15, 3)) ∧ (decode cX9_init 20 = .ok (.aload_n 0, 1)) ∧ (decode cX9_init 21 = .ok (.bipush 60, 2)) ∧ (decode cX9_init 23 = .ok (.newarray .int, 2)) ∧ (decode cX9_init 25 = .ok (.putfield 18, 3)) ∧ (decode cX9_init 28 = .ok (.aload_n 0, 1)) ∧ (decode cX9_init 29 = .ok (.bipush 60, 2)) := by decide +kernel
theorem dX9_init_15 : decode cX9_init 15 = .ok (.newarray .int, 2) := eX9_init_8.1
theorem dX9_init_17 : decode cX9_init 17 = .ok (.putfield 15, 3) := eX9_init_8.2.1
theorem dX9_init_20 : decode cX9_init 20 = .ok (.aload_n 0, 1) := eX9_init_8.2.2.1
theorem dX9_init_21 : decode cX9_init 21 = .ok (.bipush 60, 2) := eX9_init_8.2.2.2.1
theorem dX9_init_23 : decode cX9_init 23 = .ok (.newarray .int, 2) := eX9_init_8.2.2.2.2.1
theorem dX9_init_25 : decode cX9_init 25 = .ok (.putfield 18, 3) := eX9_init_8.2.2.2.2.2.1
theorem dX9_init_28 : decode cX9_init 28 = .ok (.aload_n 0, 1) := eX9_init_8.2.2.2.2.2.2.1
theorem dX9_init_29 : decode cX9_init 29 = .ok (.bipush 60, 2) := eX9_init_8.2.2.2.2.2.2.2
theorem eX9_init_16 : (decode cX9_init 31 = .ok (.newarray .int, 2)) ∧ (decode cX9_init 33 = .ok (.putfield 21, 3)) ∧ (decode cX9_init 36 = .ok (.aload_n 0, 1)) ∧ (decode cX9_init 37 = .ok (.iconst 0, 1)) ∧ (decode cX9_init 38 = .ok (.putfield 24, 3)) ∧ (decode cX9_init 41 = .ok (.aload_n 0, 1)) ∧ (decode cX9_init 42 = .ok (.aload_n 1, 1)) ∧ (decode cX9_init 43 = .ok (.putfield 28, 3)) := by decide +kernel
theorem dX9_init_31 : decode cX9_init 31 = .ok (.newarray .int, 2) := eX9_init_16.1
theorem dX9_init_33 : decode cX9_init 33 = .ok (.putfield 21, 3) := eX9_init_16.2.1
theorem dX9_init_36 : decode cX9_init 36 = .ok (.aload_n 0, 1) := eX9_init_16.2.2.1
theorem dX9_init_37 : decode cX9_init 37 = .ok (.iconst 0, 1) := eX9_init_16.2.2.2.1
theorem dX9_init_38 : decode cX9_init 38 = .ok (.putfield 24, 3) := eX9_init_16.2.2.2.2.1
theorem dX9_init_41 : decode cX9_init 41 = .ok (.aload_n 0, 1) := eX9_init_16.2.2.2.2.2.1
theorem dX9_init_42 : decode cX9_init 42 = .ok (.aload_n 1, 1) := eX9_init_16.2.2.2.2.2.2.1
theorem dX9_init_43 : decode cX9_init 43 = .ok (.putfield 28, 3) := eX9_init_16.2.2.2.2.2.2.2
theorem eX9_init_24 : (decode cX9_init 46 = .ok (.aload_n 0, 1)) ∧ (decode cX9_init 47 = .ok (.aload_n 2, 1)) ∧ (decode cX9_init 48 = .ok (.putfield 32, 3)) ∧ (decode cX9_init 51 = .ok (.aload_n 0, 1)) ∧ (decode cX9_init 52 = .ok (.aload_n 3, 1)) ∧ (decode cX9_init 53 = .ok (.putfield 36, 3)) ∧ (decode cX9_init 56 = .ok (.aload_n 0, 1)) ∧ (decode cX9_init 57 = .ok (.aload 4, 2)) := by decide +kernel
theorem dX9_init_46 : decode cX9_init 46 = .ok (.aload_n 0, 1) := eX9_init_24.1
theorem dX9_init_47 : decode cX9_init 47 = .ok (.aload_n 2, 1) := eX9_init_24.2.1
theorem dX9_init_48 : decode cX9_init 48 = .ok (.putfield 32, 3) := eX9_init_24.2.2.1
theorem dX9_init_51 : decode cX9_init 51 = .ok (.aload_n 0, 1) := eX9_init_24.2.2.2.1
theorem dX9_init_52 : decode cX9_init 52 = .ok (.aload_n 3, 1) := eX9_init_24.2.2.2.2.1
theorem dX9_init_53 : decode cX9_init 53 = .ok (.putfield 36, 3) := eX9_init_24.2.2.2.2.2.1
theorem dX9_init_56 : decode cX9_init 56 = .ok (.aload_n 0, 1) := eX9_init_24.2.2.2.2.2.2.1
theorem dX9_init_57 : decode cX9_init 57 = .ok (.aload 4, 2) := eX9_init_24.2.2.2.2.2.2.2
theorem eX9_init_32 : (decode cX9_init 59 = .ok (.putfield 40, 3)) ∧ (decode cX9_init 62 = .ok (.aload_n 0, 1)) ∧ (decode cX9_init 63 = .ok (.getfield 9, 3)) ∧ (decode cX9_init 66 = .ok (.bipush 100, 2)) ∧ (decode cX9_init 68 = .ok (.invokestatic 44, 3)) ∧ (decode cX9_init 71 = .ok (.return_, 1)) := by decide +kernel
theorem dX9_init_59 : decode cX9_init 59 = .ok (.putfield 40, 3) := eX9_init_32.1
theorem dX9_init_62 : decode cX9_init 62 = .ok (.aload_n 0, 1) := eX9_init_32.2.1
theorem dX9_init_63 : decode cX9_init 63 = .ok (.getfield 9, 3) := eX9_init_32.2.2.1
theorem dX9_init_66 : decode cX9_init 66 = .ok (.bipush 100, 2) := eX9_init_32.2.2.2.1
theorem dX9_init_68 : decode cX9_init 68 = .ok (.invokestatic 44, 3) := eX9_init_32.2.2.2.2.1
theorem dX9_init_71 : decode cX9_init 71 = .ok (.return_, 1) := eX9_init_32.2.2.2.2.2
theorem eX9_addHour_0 : (decode cX9_addHour 0 = .ok (.aload_n 0, 1)) ∧ (decode cX9_addHour 1 = .ok (.getfield 24, 3)) ∧ (decode cX9_addHour 4 = .ok (.bipush 10, 2)) ∧ (decode cX9_addHour 6 = .ok (.if_icmp .lt 6, 3)) ∧ (decode cX9_addHour 9 = .ok (.bipush (-5), 2)) ∧ (decode cX9_addHour 11 = .ok (.ireturn, 1)) ∧ (decode cX9_addHour 12 = .ok (.aload_n 0, 1)) ∧ (decode cX9_addHour 13 = .ok (.getfield 15, 3)) := by decide +kernel
theorem dX9_addHour_0 : decode cX9_addHour 0 = .ok (.aload_n 0, 1) := eX9_addHour_0.1
theorem dX9_addHour_1 : decode cX9_addHour 1 = .ok (.getfield 24, 3) := eX9_addHour_0.2.1
theorem dX9_addHour_4 : decode cX9_addHour 4 = .ok (.bipush 10, 2) := eX9_addHour_0.2.2.1
theorem dX9_addHour_6 : decode cX9_addHour 6 = .ok (.if_icmp .lt 6, 3) := eX9_addHour_0.2.2.2.1
theorem dX9_addHour_9 : decode cX9_addHour 9 = .ok (.bipush (-5), 2) := eX9_addHour_0.2.2.2.2.1
theorem dX9_addHour_11 : decode cX9_addHour 11 = .ok (.ireturn, 1) := eX9_addHour_0.2.2.2.2.2.1
theorem dX9_addHour_12 : decode cX9_addHour 12 = .ok (.aload_n 0, 1) := eX9_addHour_0.2.2.2.2.2.2.1
theorem dX9_addHour_13 : decode cX9_addHour 13 = .ok (.getfield 15, 3) := eX9_addHour_0.2.2.2.2.2.2.2
theorem eX9_addHour_8 : (decode cX9_addHour 16 = .ok (.aload_n 0, 1)) ∧ (decode cX9_addHour 17 = .ok (.getfield 24, 3)) ∧ (decode cX9_addHour 20 = .ok (.iload_n 1, 1)) ∧ (decode cX9_addHour 21 = .ok (.iastore, 1)) ∧ (decode cX9_addHour 22 = .ok (.aload_n 0, 1)) ∧ (decode cX9_addHour 23 = .ok (.dup, 1)) ∧ (decode cX9_addHour 24 = .ok (.getfield 24, 3)) ∧ (decode cX9_addHour 27 = .ok (.iconst 1, 1)) := by decide +kernel
theorem dX9_addHour_16 : decode cX9_addHour 16 = .ok (.aload_n 0, 1) := eX9_addHour_8.1
theorem dX9_addHour_17 : decode cX9_addHour 17 = .ok (.getfield 24, 3) := eX9_addHour_8.2.1
theorem dX9_addHour_20 : decode cX9_addHour 20 = .ok (.iload_n 1, 1) := eX9_addHour_8.2.2.1
theorem dX9_addHour_21 : decode cX9_addHour 21 = .ok (.iastore, 1) := eX9_addHour_8.2.2.2.1
theorem dX9_addHour_22 : decode cX9_addHour 22 = .ok (.aload_n 0, 1) := eX9_addHour_8.2.2.2.2.1
theorem dX9_addHour_23 : decode cX9_addHour 23 = .ok (.dup, 1) := eX9_addHour_8.2.2.2.2.2.1
theorem dX9_addHour_24 : decode cX9_addHour 24 = .ok (.getfield 24, 3) := eX9_addHour_8.2.2.2.2.2.2.1
theorem dX9_addHour_27 : decode cX9_addHour 27 = .ok (.iconst 1, 1) := eX9_addHour_8.2.2.2.2.2.2.2
theorem eX9_addHour_16 : (decode cX9_addHour 28 = .ok (.iadd, 1)) ∧ (decode cX9_addHour 29 = .ok (.putfield 24, 3)) ∧ (decode cX9_addHour 32 = .ok (.aload_n 0, 1)) ∧ (decode cX9_addHour 33 = .ok (.getfield 24, 3)) ∧ (decode cX9_addHour 36 = .ok (.ireturn, 1)) := by decide +kernel
theorem dX9_addHour_28 : decode cX9_addHour 28 = .ok (.iadd, 1) := eX9_addHour_16.1
theorem dX9_addHour_29 : decode cX9_addHour 29 = .ok (.putfield 24, 3) := eX9_addHour_16.2.1
theorem dX9_addHour_32 : decode cX9_addHour 32 = .ok (.aload_n 0, 1) := eX9_addHour_16.2.2.1
theorem dX9_addHour_33 : decode cX9_addHour 33 = .ok (.getfield 24, 3) := eX9_addHour_16.2.2.2.1
theorem dX9_addHour_36 : decode cX9_addHour 36 = .ok (.ireturn, 1) := eX9_addHour_16.2.2.2.2
theorem eX9_crowdOf_0 : (decode cX9_crowdOf 0 = .ok (.aload_n 0, 1)) ∧ (decode cX9_crowdOf 1 = .ok (.iload_n 1, 1)) ∧ (decode cX9_crowdOf 2 = .ok (.aload_n 0, 1)) ∧ (decode cX9_crowdOf 3 = .ok (.iload_n 1, 1)) ∧ (decode cX9_crowdOf 4 = .ok (.invokevirtual 50, 3)) ∧ (decode cX9_crowdOf 7 = .ok (.invokevirtual 54, 3)) ∧ (decode cX9_crowdOf 10 = .ok (.ireturn, 1)) := by decide +kernel
theorem dX9_crowdOf_0 : decode cX9_crowdOf 0 = .ok (.aload_n 0, 1) := eX9_crowdOf_0.1
theorem dX9_crowdOf_1 : decode cX9_crowdOf 1 = .ok (.iload_n 1, 1) := eX9_crowdOf_0.2.1
theorem dX9_crowdOf_2 : decode cX9_crowdOf 2 = .ok (.aload_n 0, 1) := eX9_crowdOf_0.2.2.1
theorem dX9_crowdOf_3 : decode cX9_crowdOf 3 = .ok (.iload_n 1, 1) := eX9_crowdOf_0.2.2.2.1
theorem dX9_crowdOf_4 : decode cX9_crowdOf 4 = .ok (.invokevirtual 50, 3) := eX9_crowdOf_0.2.2.2.2.1
theorem dX9_crowdOf_7 : decode cX9_crowdOf 7 = .ok (.invokevirtual 54, 3) := eX9_crowdOf_0.2.2.2.2.2.1
theorem dX9_crowdOf_10 : decode cX9_crowdOf 10 = .ok (.ireturn, 1) := eX9_crowdOf_0.2.2.2.2.2.2
theorem eX9_worthOf_0 : (decode cX9_worthOf 0 = .ok (.aload_n 0, 1)) ∧ (decode cX9_worthOf 1 = .ok (.iload_n 1, 1)) ∧ (decode cX9_worthOf 2 = .ok (.aload_n 0, 1)) ∧ (decode cX9_worthOf 3 = .ok (.iload_n 1, 1)) ∧ (decode cX9_worthOf 4 = .ok (.invokevirtual 50, 3)) ∧ (decode cX9_worthOf 7 = .ok (.invokevirtual 58, 3)) ∧ (decode cX9_worthOf 10 = .ok (.ireturn, 1)) := by decide +kernel
theorem dX9_worthOf_0 : decode cX9_worthOf 0 = .ok (.aload_n 0, 1) := eX9_worthOf_0.1
theorem dX9_worthOf_1 : decode cX9_worthOf 1 = .ok (.iload_n 1, 1) := eX9_worthOf_0.2.1
theorem dX9_worthOf_2 : decode cX9_worthOf 2 = .ok (.aload_n 0, 1) := eX9_worthOf_0.2.2.1
theorem dX9_worthOf_3 : decode cX9_worthOf 3 = .ok (.iload_n 1, 1) := eX9_worthOf_0.2.2.2.1
theorem dX9_worthOf_4 : decode cX9_worthOf 4 = .ok (.invokevirtual 50, 3) := eX9_worthOf_0.2.2.2.2.1
theorem dX9_worthOf_7 : decode cX9_worthOf 7 = .ok (.invokevirtual 58, 3) := eX9_worthOf_0.2.2.2.2.2.1
theorem dX9_worthOf_10 : decode cX9_worthOf 10 = .ok (.ireturn, 1) := eX9_worthOf_0.2.2.2.2.2.2
theorem eX9_sum_0 : (decode cX9_sum 0 = .ok (.iconst 0, 1)) ∧ (decode cX9_sum 1 = .ok (.istore_n 1, 1)) ∧ (decode cX9_sum 2 = .ok (.iconst 0, 1)) ∧ (decode cX9_sum 3 = .ok (.istore_n 2, 1)) ∧ (decode cX9_sum 4 = .ok (.iload_n 2, 1)) ∧ (decode cX9_sum 5 = .ok (.aload_n 0, 1)) ∧ (decode cX9_sum 6 = .ok (.getfield 36, 3)) ∧ (decode cX9_sum 9 = .ok (.getfield 61, 3)) := by decide +kernel
theorem dX9_sum_0 : decode cX9_sum 0 = .ok (.iconst 0, 1) := eX9_sum_0.1
theorem dX9_sum_1 : decode cX9_sum 1 = .ok (.istore_n 1, 1) := eX9_sum_0.2.1
theorem dX9_sum_2 : decode cX9_sum 2 = .ok (.iconst 0, 1) := eX9_sum_0.2.2.1
theorem dX9_sum_3 : decode cX9_sum 3 = .ok (.istore_n 2, 1) := eX9_sum_0.2.2.2.1
theorem dX9_sum_4 : decode cX9_sum 4 = .ok (.iload_n 2, 1) := eX9_sum_0.2.2.2.2.1
theorem dX9_sum_5 : decode cX9_sum 5 = .ok (.aload_n 0, 1) := eX9_sum_0.2.2.2.2.2.1
theorem dX9_sum_6 : decode cX9_sum 6 = .ok (.getfield 36, 3) := eX9_sum_0.2.2.2.2.2.2.1
theorem dX9_sum_9 : decode cX9_sum 9 = .ok (.getfield 61, 3) := eX9_sum_0.2.2.2.2.2.2.2
theorem eX9_sum_8 : (decode cX9_sum 12 = .ok (.if_icmp .ge 29, 3)) ∧ (decode cX9_sum 15 = .ok (.aload_n 0, 1)) ∧ (decode cX9_sum 16 = .ok (.getfield 36, 3)) ∧ (decode cX9_sum 19 = .ok (.getfield 66, 3)) ∧ (decode cX9_sum 22 = .ok (.iload_n 2, 1)) ∧ (decode cX9_sum 23 = .ok (.baload, 1)) ∧ (decode cX9_sum 24 = .ok (.ifCond .eq 11, 3)) ∧ (decode cX9_sum 27 = .ok (.iload_n 1, 1)) := by decide +kernel
theorem dX9_sum_12 : decode cX9_sum 12 = .ok (.if_icmp .ge 29, 3) := eX9_sum_8.1
theorem dX9_sum_15 : decode cX9_sum 15 = .ok (.aload_n 0, 1) := eX9_sum_8.2.1
theorem dX9_sum_16 : decode cX9_sum 16 = .ok (.getfield 36, 3) := eX9_sum_8.2.2.1
theorem dX9_sum_19 : decode cX9_sum 19 = .ok (.getfield 66, 3) := eX9_sum_8.2.2.2.1
theorem dX9_sum_22 : decode cX9_sum 22 = .ok (.iload_n 2, 1) := eX9_sum_8.2.2.2.2.1
theorem dX9_sum_23 : decode cX9_sum 23 = .ok (.baload, 1) := eX9_sum_8.2.2.2.2.2.1
theorem dX9_sum_24 : decode cX9_sum 24 = .ok (.ifCond .eq 11, 3) := eX9_sum_8.2.2.2.2.2.2.1
theorem dX9_sum_27 : decode cX9_sum 27 = .ok (.iload_n 1, 1) := eX9_sum_8.2.2.2.2.2.2.2
theorem eX9_sum_16 : (decode cX9_sum 28 = .ok (.aload_n 0, 1)) ∧ (decode cX9_sum 29 = .ok (.iload_n 2, 1)) ∧ (decode cX9_sum 30 = .ok (.invokevirtual 70, 3)) ∧ (decode cX9_sum 33 = .ok (.iadd, 1)) ∧ (decode cX9_sum 34 = .ok (.istore_n 1, 1)) ∧ (decode cX9_sum 35 = .ok (.iinc 2 1, 3)) ∧ (decode cX9_sum 38 = .ok (.goto (-34), 3)) ∧ (decode cX9_sum 41 = .ok (.iload_n 1, 1)) := by decide +kernel
theorem dX9_sum_28 : decode cX9_sum 28 = .ok (.aload_n 0, 1) := eX9_sum_16.1
theorem dX9_sum_29 : decode cX9_sum 29 = .ok (.iload_n 2, 1) := eX9_sum_16.2.1
theorem dX9_sum_30 : decode cX9_sum 30 = .ok (.invokevirtual 70, 3) := eX9_sum_16.2.2.1
theorem dX9_sum_33 : decode cX9_sum 33 = .ok (.iadd, 1) := eX9_sum_16.2.2.2.1
theorem dX9_sum_34 : decode cX9_sum 34 = .ok (.istore_n 1, 1) := eX9_sum_16.2.2.2.2.1
theorem dX9_sum_35 : decode cX9_sum 35 = .ok (.iinc 2 1, 3) := eX9_sum_16.2.2.2.2.2.1
theorem dX9_sum_38 : decode cX9_sum 38 = .ok (.goto (-34), 3) := eX9_sum_16.2.2.2.2.2.2.1
theorem dX9_sum_41 : decode cX9_sum 41 = .ok (.iload_n 1, 1) := eX9_sum_16.2.2.2.2.2.2.2
theorem dX9_sum_42 : decode cX9_sum 42 = .ok (.ireturn, 1) := by decide +kernel
theorem eX9_improve_0 : (decode cX9_improve 0 = .ok (.iconst 0, 1)) ∧ (decode cX9_improve 1 = .ok (.istore_n 1, 1)) ∧ (decode cX9_improve 2 = .ok (.iload_n 1, 1)) ∧ (decode cX9_improve 3 = .ok (.bipush 40, 2)) ∧ (decode cX9_improve 5 = .ok (.if_icmp .ge 35, 3)) ∧ (decode cX9_improve 8 = .ok (.aload_n 0, 1)) ∧ (decode cX9_improve 9 = .ok (.invokevirtual 73, 3)) ∧ (decode cX9_improve 12 = .ok (.ifCond .eq 28, 3)) := by decide +kernel
theorem dX9_improve_0 : decode cX9_improve 0 = .ok (.iconst 0, 1) := eX9_improve_0.1
theorem dX9_improve_1 : decode cX9_improve 1 = .ok (.istore_n 1, 1) := eX9_improve_0.2.1
theorem dX9_improve_2 : decode cX9_improve 2 = .ok (.iload_n 1, 1) := eX9_improve_0.2.2.1
theorem dX9_improve_3 : decode cX9_improve 3 = .ok (.bipush 40, 2) := eX9_improve_0.2.2.2.1
theorem dX9_improve_5 : decode cX9_improve 5 = .ok (.if_icmp .ge 35, 3) := eX9_improve_0.2.2.2.2.1
theorem dX9_improve_8 : decode cX9_improve 8 = .ok (.aload_n 0, 1) := eX9_improve_0.2.2.2.2.2.1
theorem dX9_improve_9 : decode cX9_improve 9 = .ok (.invokevirtual 73, 3) := eX9_improve_0.2.2.2.2.2.2.1
theorem dX9_improve_12 : decode cX9_improve 12 = .ok (.ifCond .eq 28, 3) := eX9_improve_0.2.2.2.2.2.2.2
theorem eX9_improve_8 : (decode cX9_improve 15 = .ok (.aload_n 0, 1)) ∧ (decode cX9_improve 16 = .ok (.getfield 36, 3)) ∧ (decode cX9_improve 19 = .ok (.aload_n 0, 1)) ∧ (decode cX9_improve 20 = .ok (.getfield 77, 3)) ∧ (decode cX9_improve 23 = .ok (.aload_n 0, 1)) ∧ (decode cX9_improve 24 = .ok (.getfield 80, 3)) ∧ (decode cX9_improve 27 = .ok (.aload_n 0, 1)) ∧ (decode cX9_improve 28 = .ok (.getfield 83, 3)) := by decide +kernel
theorem dX9_improve_15 : decode cX9_improve 15 = .ok (.aload_n 0, 1) := eX9_improve_8.1
theorem dX9_improve_16 : decode cX9_improve 16 = .ok (.getfield 36, 3) := eX9_improve_8.2.1
theorem dX9_improve_19 : decode cX9_improve 19 = .ok (.aload_n 0, 1) := eX9_improve_8.2.2.1
theorem dX9_improve_20 : decode cX9_improve 20 = .ok (.getfield 77, 3) := eX9_improve_8.2.2.2.1
theorem dX9_improve_23 : decode cX9_improve 23 = .ok (.aload_n 0, 1) := eX9_improve_8.2.2.2.2.1
theorem dX9_improve_24 : decode cX9_improve 24 = .ok (.getfield 80, 3) := eX9_improve_8.2.2.2.2.2.1
theorem dX9_improve_27 : decode cX9_improve 27 = .ok (.aload_n 0, 1) := eX9_improve_8.2.2.2.2.2.2.1
theorem dX9_improve_28 : decode cX9_improve 28 = .ok (.getfield 83, 3) := eX9_improve_8.2.2.2.2.2.2.2
theorem eX9_improve_16 : (decode cX9_improve 31 = .ok (.invokevirtual 86, 3)) ∧ (decode cX9_improve 34 = .ok (.iinc 1 1, 3)) ∧ (decode cX9_improve 37 = .ok (.goto (-35), 3)) ∧ (decode cX9_improve 40 = .ok (.aload_n 0, 1)) ∧ (decode cX9_improve 41 = .ok (.iconst 0, 1)) ∧ (decode cX9_improve 42 = .ok (.putfield 24, 3)) ∧ (decode cX9_improve 45 = .ok (.iload_n 1, 1)) ∧ (decode cX9_improve 46 = .ok (.ireturn, 1)) := by decide +kernel
theorem dX9_improve_31 : decode cX9_improve 31 = .ok (.invokevirtual 86, 3) := eX9_improve_16.1
theorem dX9_improve_34 : decode cX9_improve 34 = .ok (.iinc 1 1, 3) := eX9_improve_16.2.1
theorem dX9_improve_37 : decode cX9_improve 37 = .ok (.goto (-35), 3) := eX9_improve_16.2.2.1
theorem dX9_improve_40 : decode cX9_improve 40 = .ok (.aload_n 0, 1) := eX9_improve_16.2.2.2.1
theorem dX9_improve_41 : decode cX9_improve 41 = .ok (.iconst 0, 1) := eX9_improve_16.2.2.2.2.1
theorem dX9_improve_42 : decode cX9_improve 42 = .ok (.putfield 24, 3) := eX9_improve_16.2.2.2.2.2.1
theorem dX9_improve_45 : decode cX9_improve 45 = .ok (.iload_n 1, 1) := eX9_improve_16.2.2.2.2.2.2.1
theorem dX9_improve_46 : decode cX9_improve 46 = .ok (.ireturn, 1) := eX9_improve_16.2.2.2.2.2.2.2
theorem eX9_findBestChange_0 : (decode cX9_findBestChange 0 = .ok (.aload_n 0, 1)) ∧ (decode cX9_findBestChange 1 = .ok (.invokevirtual 90, 3)) ∧ (decode cX9_findBestChange 4 = .ok (.aload_n 0, 1)) ∧ (decode cX9_findBestChange 5 = .ok (.iconst (-1), 1)) ∧ (decode cX9_findBestChange 6 = .ok (.putfield 77, 3)) ∧ (decode cX9_findBestChange 9 = .ok (.iconst 0, 1)) ∧ (decode cX9_findBestChange 10 = .ok (.istore_n 1, 1)) ∧ (decode cX9_findBestChange 11 = .ok (.iload_n 1, 1)) := by decide +kernel
theorem dX9_findBestChange_0 : decode cX9_findBestChange 0 = .ok (.aload_n 0, 1) := eX9_findBestChange_0.1
theorem dX9_findBestChange_1 : decode cX9_findBestChange 1 = .ok (.invokevirtual 90, 3) := eX9_findBestChange_0.2.1
theorem dX9_findBestChange_4 : decode cX9_findBestChange 4 = .ok (.aload_n 0, 1) := eX9_findBestChange_0.2.2.1
theorem dX9_findBestChange_5 : decode cX9_findBestChange 5 = .ok (.iconst (-1), 1) := eX9_findBestChange_0.2.2.2.1
theorem dX9_findBestChange_6 : decode cX9_findBestChange 6 = .ok (.putfield 77, 3) := eX9_findBestChange_0.2.2.2.2.1
theorem dX9_findBestChange_9 : decode cX9_findBestChange 9 = .ok (.iconst 0, 1) := eX9_findBestChange_0.2.2.2.2.2.1
theorem dX9_findBestChange_10 : decode cX9_findBestChange 10 = .ok (.istore_n 1, 1) := eX9_findBestChange_0.2.2.2.2.2.2.1
theorem dX9_findBestChange_11 : decode cX9_findBestChange 11 = .ok (.iload_n 1, 1) := eX9_findBestChange_0.2.2.2.2.2.2.2
theorem eX9_findBestChange_8 : (decode cX9_findBestChange 12 = .ok (.aload_n 0, 1)) ∧ (decode cX9_findBestChange 13 = .ok (.getfield 36, 3)) ∧ (decode cX9_findBestChange 16 = .ok (.getfield 61, 3)) ∧ (decode cX9_findBestChange 19 = .ok (.if_icmp .ge 102, 3)) ∧ (decode cX9_findBestChange 22 = .ok (.aload_n 0, 1)) ∧ (decode cX9_findBestChange 23 = .ok (.getfield 36, 3)) ∧ (decode cX9_findBestChange 26 = .ok (.getfield 66, 3)) ∧ (decode cX9_findBestChange 29 = .ok (.iload_n 1, 1)) := by decide +kernel
theorem dX9_findBestChange_12 : decode cX9_findBestChange 12 = .ok (.aload_n 0, 1) := eX9_findBestChange_8.1
theorem dX9_findBestChange_13 : decode cX9_findBestChange 13 = .ok (.getfield 36, 3) := eX9_findBestChange_8.2.1
theorem dX9_findBestChange_16 : decode cX9_findBestChange 16 = .ok (.getfield 61, 3) := eX9_findBestChange_8.2.2.1
theorem dX9_findBestChange_19 : decode cX9_findBestChange 19 = .ok (.if_icmp .ge 102, 3) := eX9_findBestChange_8.2.2.2.1
theorem dX9_findBestChange_22 : decode cX9_findBestChange 22 = .ok (.aload_n 0, 1) := eX9_findBestChange_8.2.2.2.2.1
theorem dX9_findBestChange_23 : decode cX9_findBestChange 23 = .ok (.getfield 36, 3) := eX9_findBestChange_8.2.2.2.2.2.1
theorem dX9_findBestChange_26 : decode cX9_findBestChange 26 = .ok (.getfield 66, 3) := eX9_findBestChange_8.2.2.2.2.2.2.1
theorem dX9_findBestChange_29 : decode cX9_findBestChange 29 = .ok (.iload_n 1, 1) := eX9_findBestChange_8.2.2.2.2.2.2.2
theorem eX9_findBestChange_16 : (decode cX9_findBestChange 30 = .ok (.baload, 1)) ∧ (decode cX9_findBestChange 31 = .ok (.ifCond .ne 6, 3)) ∧ (decode cX9_findBestChange 34 = .ok (.goto 81, 3)) ∧ (decode cX9_findBestChange 37 = .ok (.aload_n 0, 1)) ∧ (decode cX9_findBestChange 38 = .ok (.iload_n 1, 1)) ∧ (decode cX9_findBestChange 39 = .ok (.invokevirtual 93, 3)) ∧ (decode cX9_findBestChange 42 = .ok (.istore_n 2, 1)) ∧ (decode cX9_findBestChange 43 = .ok (.iconst 0, 1)) := by decide +kernel
theorem dX9_findBestChange_30 : decode cX9_findBestChange 30 = .ok (.baload, 1) := eX9_findBestChange_16.1
theorem dX9_findBestChange_31 : decode cX9_findBestChange 31 = .ok (.ifCond .ne 6, 3) := eX9_findBestChange_16.2.1
theorem dX9_findBestChange_34 : decode cX9_findBestChange 34 = .ok (.goto 81, 3) := eX9_findBestChange_16.2.2.1
theorem dX9_findBestChange_37 : decode cX9_findBestChange 37 = .ok (.aload_n 0, 1) := eX9_findBestChange_16.2.2.2.1
theorem dX9_findBestChange_38 : decode cX9_findBestChange 38 = .ok (.iload_n 1, 1) := eX9_findBestChange_16.2.2.2.2.1
theorem dX9_findBestChange_39 : decode cX9_findBestChange 39 = .ok (.invokevirtual 93, 3) := eX9_findBestChange_16.2.2.2.2.2.1
theorem dX9_findBestChange_42 : decode cX9_findBestChange 42 = .ok (.istore_n 2, 1) := eX9_findBestChange_16.2.2.2.2.2.2.1
theorem dX9_findBestChange_43 : decode cX9_findBestChange 43 = .ok (.iconst 0, 1) := eX9_findBestChange_16.2.2.2.2.2.2.2
theorem eX9_findBestChange_24 : (decode cX9_findBestChange 44 = .ok (.istore_n 3, 1)) ∧ (decode cX9_findBestChange 45 = .ok (.iload_n 3, 1)) ∧ (decode cX9_findBestChange 46 = .ok (.aload_n 0, 1)) ∧ (decode cX9_findBestChange 47 = .ok (.getfield 28, 3)) ∧ (decode cX9_findBestChange 50 = .ok (.getfield 96, 3)) ∧ (decode cX9_findBestChange 53 = .ok (.if_icmp .ge 62, 3)) ∧ (decode cX9_findBestChange 56 = .ok (.iconst 0, 1)) ∧ (decode cX9_findBestChange 57 = .ok (.istore 4, 2)) := by decide +kernel
theorem dX9_findBestChange_44 : decode cX9_findBestChange 44 = .ok (.istore_n 3, 1) := eX9_findBestChange_24.1
theorem dX9_findBestChange_45 : decode cX9_findBestChange 45 = .ok (.iload_n 3, 1) := eX9_findBestChange_24.2.1
theorem dX9_findBestChange_46 : decode cX9_findBestChange 46 = .ok (.aload_n 0, 1) := eX9_findBestChange_24.2.2.1
theorem dX9_findBestChange_47 : decode cX9_findBestChange 47 = .ok (.getfield 28, 3) := eX9_findBestChange_24.2.2.2.1
theorem dX9_findBestChange_50 : decode cX9_findBestChange 50 = .ok (.getfield 96, 3) := eX9_findBestChange_24.2.2.2.2.1
theorem dX9_findBestChange_53 : decode cX9_findBestChange 53 = .ok (.if_icmp .ge 62, 3) := eX9_findBestChange_24.2.2.2.2.2.1
theorem dX9_findBestChange_56 : decode cX9_findBestChange 56 = .ok (.iconst 0, 1) := eX9_findBestChange_24.2.2.2.2.2.2.1
theorem dX9_findBestChange_57 : decode cX9_findBestChange 57 = .ok (.istore 4, 2) := eX9_findBestChange_24.2.2.2.2.2.2.2
theorem eX9_findBestChange_32 : (decode cX9_findBestChange 59 = .ok (.iload 4, 2)) ∧ (decode cX9_findBestChange 61 = .ok (.aload_n 0, 1)) ∧ (decode cX9_findBestChange 62 = .ok (.getfield 24, 3)) ∧ (decode cX9_findBestChange 65 = .ok (.if_icmp .gt 44, 3)) ∧ (decode cX9_findBestChange 68 = .ok (.aload_n 0, 1)) ∧ (decode cX9_findBestChange 69 = .ok (.iload_n 1, 1)) ∧ (decode cX9_findBestChange 70 = .ok (.iload_n 3, 1)) ∧ (decode cX9_findBestChange 71 = .ok (.iload 4, 2)) := by decide +kernel
theorem dX9_findBestChange_59 : decode cX9_findBestChange 59 = .ok (.iload 4, 2) := eX9_findBestChange_32.1
theorem dX9_findBestChange_61 : decode cX9_findBestChange 61 = .ok (.aload_n 0, 1) := eX9_findBestChange_32.2.1
theorem dX9_findBestChange_62 : decode cX9_findBestChange 62 = .ok (.getfield 24, 3) := eX9_findBestChange_32.2.2.1
theorem dX9_findBestChange_65 : decode cX9_findBestChange 65 = .ok (.if_icmp .gt 44, 3) := eX9_findBestChange_32.2.2.2.1
theorem dX9_findBestChange_68 : decode cX9_findBestChange 68 = .ok (.aload_n 0, 1) := eX9_findBestChange_32.2.2.2.2.1
theorem dX9_findBestChange_69 : decode cX9_findBestChange 69 = .ok (.iload_n 1, 1) := eX9_findBestChange_32.2.2.2.2.2.1
theorem dX9_findBestChange_70 : decode cX9_findBestChange 70 = .ok (.iload_n 3, 1) := eX9_findBestChange_32.2.2.2.2.2.2.1
theorem dX9_findBestChange_71 : decode cX9_findBestChange 71 = .ok (.iload 4, 2) := eX9_findBestChange_32.2.2.2.2.2.2.2
theorem eX9_findBestChange_40 : (decode cX9_findBestChange 73 = .ok (.aload_n 0, 1)) ∧ (decode cX9_findBestChange 74 = .ok (.getfield 24, 3)) ∧ (decode cX9_findBestChange 77 = .ok (.if_icmp .ge 13, 3)) ∧ (decode cX9_findBestChange 80 = .ok (.aload_n 0, 1)) ∧ (decode cX9_findBestChange 81 = .ok (.getfield 15, 3)) ∧ (decode cX9_findBestChange 84 = .ok (.iload 4, 2)) ∧ (decode cX9_findBestChange 86 = .ok (.iaload, 1)) ∧ (decode cX9_findBestChange 87 = .ok (.goto 12, 3)) := by decide +kernel
theorem dX9_findBestChange_73 : decode cX9_findBestChange 73 = .ok (.aload_n 0, 1) := eX9_findBestChange_40.1
theorem dX9_findBestChange_74 : decode cX9_findBestChange 74 = .ok (.getfield 24, 3) := eX9_findBestChange_40.2.1
theorem dX9_findBestChange_77 : decode cX9_findBestChange 77 = .ok (.if_icmp .ge 13, 3) := eX9_findBestChange_40.2.2.1
theorem dX9_findBestChange_80 : decode cX9_findBestChange 80 = .ok (.aload_n 0, 1) := eX9_findBestChange_40.2.2.2.1
theorem dX9_findBestChange_81 : decode cX9_findBestChange 81 = .ok (.getfield 15, 3) := eX9_findBestChange_40.2.2.2.2.1
theorem dX9_findBestChange_84 : decode cX9_findBestChange 84 = .ok (.iload 4, 2) := eX9_findBestChange_40.2.2.2.2.2.1
theorem dX9_findBestChange_86 : decode cX9_findBestChange 86 = .ok (.iaload, 1) := eX9_findBestChange_40.2.2.2.2.2.2.1
theorem dX9_findBestChange_87 : decode cX9_findBestChange 87 = .ok (.goto 12, 3) := eX9_findBestChange_40.2.2.2.2.2.2.2
theorem eX9_findBestChange_48 : (decode cX9_findBestChange 90 = .ok (.aload_n 0, 1)) ∧ (decode cX9_findBestChange 91 = .ok (.getfield 36, 3)) ∧ (decode cX9_findBestChange 94 = .ok (.getfield 101, 3)) ∧ (decode cX9_findBestChange 97 = .ok (.iload_n 1, 1)) ∧ (decode cX9_findBestChange 98 = .ok (.iaload, 1)) ∧ (decode cX9_findBestChange 99 = .ok (.iload_n 2, 1)) ∧ (decode cX9_findBestChange 100 = .ok (.invokevirtual 104, 3)) ∧ (decode cX9_findBestChange 103 = .ok (.iinc 4 1, 3)) := by decide +kernel
theorem dX9_findBestChange_90 : decode cX9_findBestChange 90 = .ok (.aload_n 0, 1) := eX9_findBestChange_48.1
theorem dX9_findBestChange_91 : decode cX9_findBestChange 91 = .ok (.getfield 36, 3) := eX9_findBestChange_48.2.1
theorem dX9_findBestChange_94 : decode cX9_findBestChange 94 = .ok (.getfield 101, 3) := eX9_findBestChange_48.2.2.1
theorem dX9_findBestChange_97 : decode cX9_findBestChange 97 = .ok (.iload_n 1, 1) := eX9_findBestChange_48.2.2.2.1
theorem dX9_findBestChange_98 : decode cX9_findBestChange 98 = .ok (.iaload, 1) := eX9_findBestChange_48.2.2.2.2.1
theorem dX9_findBestChange_99 : decode cX9_findBestChange 99 = .ok (.iload_n 2, 1) := eX9_findBestChange_48.2.2.2.2.2.1
theorem dX9_findBestChange_100 : decode cX9_findBestChange 100 = .ok (.invokevirtual 104, 3) := eX9_findBestChange_48.2.2.2.2.2.2.1
theorem dX9_findBestChange_103 : decode cX9_findBestChange 103 = .ok (.iinc 4 1, 3) := eX9_findBestChange_48.2.2.2.2.2.2.2
theorem eX9_findBestChange_56 : (decode cX9_findBestChange 106 = .ok (.goto (-47), 3)) ∧ (decode cX9_findBestChange 109 = .ok (.iinc 3 1, 3)) ∧ (decode cX9_findBestChange 112 = .ok (.goto (-67), 3)) ∧ (decode cX9_findBestChange 115 = .ok (.iinc 1 1, 3)) ∧ (decode cX9_findBestChange 118 = .ok (.goto (-107), 3)) ∧ (decode cX9_findBestChange 121 = .ok (.aload_n 0, 1)) ∧ (decode cX9_findBestChange 122 = .ok (.getfield 77, 3)) ∧ (decode cX9_findBestChange 125 = .ok (.iconst (-1), 1)) := by decide +kernel
theorem dX9_findBestChange_106 : decode cX9_findBestChange 106 = .ok (.goto (-47), 3) := eX9_findBestChange_56.1
theorem dX9_findBestChange_109 : decode cX9_findBestChange 109 = .ok (.iinc 3 1, 3) := eX9_findBestChange_56.2.1
theorem dX9_findBestChange_112 : decode cX9_findBestChange 112 = .ok (.goto (-67), 3) := eX9_findBestChange_56.2.2.1
theorem dX9_findBestChange_115 : decode cX9_findBestChange 115 = .ok (.iinc 1 1, 3) := eX9_findBestChange_56.2.2.2.1
theorem dX9_findBestChange_118 : decode cX9_findBestChange 118 = .ok (.goto (-107), 3) := eX9_findBestChange_56.2.2.2.2.1
theorem dX9_findBestChange_121 : decode cX9_findBestChange 121 = .ok (.aload_n 0, 1) := eX9_findBestChange_56.2.2.2.2.2.1
theorem dX9_findBestChange_122 : decode cX9_findBestChange 122 = .ok (.getfield 77, 3) := eX9_findBestChange_56.2.2.2.2.2.2.1
theorem dX9_findBestChange_125 : decode cX9_findBestChange 125 = .ok (.iconst (-1), 1) := eX9_findBestChange_56.2.2.2.2.2.2.2
theorem eX9_findBestChange_64 : (decode cX9_findBestChange 126 = .ok (.if_icmp .eq 7, 3)) ∧ (decode cX9_findBestChange 129 = .ok (.iconst 1, 1)) ∧ (decode cX9_findBestChange 130 = .ok (.goto 4, 3)) ∧ (decode cX9_findBestChange 133 = .ok (.iconst 0, 1)) ∧ (decode cX9_findBestChange 134 = .ok (.ireturn, 1)) := by decide +kernel
theorem dX9_findBestChange_126 : decode cX9_findBestChange 126 = .ok (.if_icmp .eq 7, 3) := eX9_findBestChange_64.1
theorem dX9_findBestChange_129 : decode cX9_findBestChange 129 = .ok (.iconst 1, 1) := eX9_findBestChange_64.2.1
theorem dX9_findBestChange_130 : decode cX9_findBestChange 130 = .ok (.goto 4, 3) := eX9_findBestChange_64.2.2.1
theorem dX9_findBestChange_133 : decode cX9_findBestChange 133 = .ok (.iconst 0, 1) := eX9_findBestChange_64.2.2.2.1
theorem dX9_findBestChange_134 : decode cX9_findBestChange 134 = .ok (.ireturn, 1) := eX9_findBestChange_64.2.2.2.2
theorem eX9_countBeside_0 : (decode cX9_countBeside 0 = .ok (.aload_n 0, 1)) ∧ (decode cX9_countBeside 1 = .ok (.iconst 0, 1)) ∧ (decode cX9_countBeside 2 = .ok (.putfield 108, 3)) ∧ (decode cX9_countBeside 5 = .ok (.iconst 0, 1)) ∧ (decode cX9_countBeside 6 = .ok (.istore_n 1, 1)) ∧ (decode cX9_countBeside 7 = .ok (.iload_n 1, 1)) ∧ (decode cX9_countBeside 8 = .ok (.aload_n 0, 1)) ∧ (decode cX9_countBeside 9 = .ok (.getfield 36, 3)) := by decide +kernel
theorem dX9_countBeside_0 : decode cX9_countBeside 0 = .ok (.aload_n 0, 1) := eX9_countBeside_0.1
theorem dX9_countBeside_1 : decode cX9_countBeside 1 = .ok (.iconst 0, 1) := eX9_countBeside_0.2.1
theorem dX9_countBeside_2 : decode cX9_countBeside 2 = .ok (.putfield 108, 3) := eX9_countBeside_0.2.2.1
theorem dX9_countBeside_5 : decode cX9_countBeside 5 = .ok (.iconst 0, 1) := eX9_countBeside_0.2.2.2.1
theorem dX9_countBeside_6 : decode cX9_countBeside 6 = .ok (.istore_n 1, 1) := eX9_countBeside_0.2.2.2.2.1
theorem dX9_countBeside_7 : decode cX9_countBeside 7 = .ok (.iload_n 1, 1) := eX9_countBeside_0.2.2.2.2.2.1
theorem dX9_countBeside_8 : decode cX9_countBeside 8 = .ok (.aload_n 0, 1) := eX9_countBeside_0.2.2.2.2.2.2.1
theorem dX9_countBeside_9 : decode cX9_countBeside 9 = .ok (.getfield 36, 3) := eX9_countBeside_0.2.2.2.2.2.2.2
theorem eX9_countBeside_8 : (decode cX9_countBeside 12 = .ok (.getfield 61, 3)) ∧ (decode cX9_countBeside 15 = .ok (.if_icmp .ge 52, 3)) ∧ (decode cX9_countBeside 18 = .ok (.aload_n 0, 1)) ∧ (decode cX9_countBeside 19 = .ok (.getfield 36, 3)) ∧ (decode cX9_countBeside 22 = .ok (.getfield 66, 3)) ∧ (decode cX9_countBeside 25 = .ok (.iload_n 1, 1)) ∧ (decode cX9_countBeside 26 = .ok (.baload, 1)) ∧ (decode cX9_countBeside 27 = .ok (.ifCond .eq 34, 3)) := by decide +kernel
theorem dX9_countBeside_12 : decode cX9_countBeside 12 = .ok (.getfield 61, 3) := eX9_countBeside_8.1
theorem dX9_countBeside_15 : decode cX9_countBeside 15 = .ok (.if_icmp .ge 52, 3) := eX9_countBeside_8.2.1
theorem dX9_countBeside_18 : decode cX9_countBeside 18 = .ok (.aload_n 0, 1) := eX9_countBeside_8.2.2.1
theorem dX9_countBeside_19 : decode cX9_countBeside 19 = .ok (.getfield 36, 3) := eX9_countBeside_8.2.2.2.1
theorem dX9_countBeside_22 : decode cX9_countBeside 22 = .ok (.getfield 66, 3) := eX9_countBeside_8.2.2.2.2.1
theorem dX9_countBeside_25 : decode cX9_countBeside 25 = .ok (.iload_n 1, 1) := eX9_countBeside_8.2.2.2.2.2.1
theorem dX9_countBeside_26 : decode cX9_countBeside 26 = .ok (.baload, 1) := eX9_countBeside_8.2.2.2.2.2.2.1
theorem dX9_countBeside_27 : decode cX9_countBeside 27 = .ok (.ifCond .eq 34, 3) := eX9_countBeside_8.2.2.2.2.2.2.2
theorem eX9_countBeside_16 : (decode cX9_countBeside 30 = .ok (.aload_n 0, 1)) ∧ (decode cX9_countBeside 31 = .ok (.getfield 18, 3)) ∧ (decode cX9_countBeside 34 = .ok (.iload_n 1, 1)) ∧ (decode cX9_countBeside 35 = .ok (.aload_n 0, 1)) ∧ (decode cX9_countBeside 36 = .ok (.iload_n 1, 1)) ∧ (decode cX9_countBeside 37 = .ok (.invokevirtual 50, 3)) ∧ (decode cX9_countBeside 40 = .ok (.iastore, 1)) ∧ (decode cX9_countBeside 41 = .ok (.aload_n 0, 1)) := by decide +kernel
theorem dX9_countBeside_30 : decode cX9_countBeside 30 = .ok (.aload_n 0, 1) := eX9_countBeside_16.1
theorem dX9_countBeside_31 : decode cX9_countBeside 31 = .ok (.getfield 18, 3) := eX9_countBeside_16.2.1
theorem dX9_countBeside_34 : decode cX9_countBeside 34 = .ok (.iload_n 1, 1) := eX9_countBeside_16.2.2.1
theorem dX9_countBeside_35 : decode cX9_countBeside 35 = .ok (.aload_n 0, 1) := eX9_countBeside_16.2.2.2.1
theorem dX9_countBeside_36 : decode cX9_countBeside 36 = .ok (.iload_n 1, 1) := eX9_countBeside_16.2.2.2.2.1
theorem dX9_countBeside_37 : decode cX9_countBeside 37 = .ok (.invokevirtual 50, 3) := eX9_countBeside_16.2.2.2.2.2.1
theorem dX9_countBeside_40 : decode cX9_countBeside 40 = .ok (.iastore, 1) := eX9_countBeside_16.2.2.2.2.2.2.1
theorem dX9_countBeside_41 : decode cX9_countBeside 41 = .ok (.aload_n 0, 1) := eX9_countBeside_16.2.2.2.2.2.2.2
theorem eX9_countBeside_24 : (decode cX9_countBeside 42 = .ok (.dup, 1)) ∧ (decode cX9_countBeside 43 = .ok (.getfield 108, 3)) ∧ (decode cX9_countBeside 46 = .ok (.aload_n 0, 1)) ∧ (decode cX9_countBeside 47 = .ok (.iload_n 1, 1)) ∧ (decode cX9_countBeside 48 = .ok (.aload_n 0, 1)) ∧ (decode cX9_countBeside 49 = .ok (.getfield 18, 3)) ∧ (decode cX9_countBeside 52 = .ok (.iload_n 1, 1)) ∧ (decode cX9_countBeside 53 = .ok (.iaload, 1)) := by decide +kernel
theorem dX9_countBeside_42 : decode cX9_countBeside 42 = .ok (.dup, 1) := eX9_countBeside_24.1
theorem dX9_countBeside_43 : decode cX9_countBeside 43 = .ok (.getfield 108, 3) := eX9_countBeside_24.2.1
theorem dX9_countBeside_46 : decode cX9_countBeside 46 = .ok (.aload_n 0, 1) := eX9_countBeside_24.2.2.1
theorem dX9_countBeside_47 : decode cX9_countBeside 47 = .ok (.iload_n 1, 1) := eX9_countBeside_24.2.2.2.1
theorem dX9_countBeside_48 : decode cX9_countBeside 48 = .ok (.aload_n 0, 1) := eX9_countBeside_24.2.2.2.2.1
theorem dX9_countBeside_49 : decode cX9_countBeside 49 = .ok (.getfield 18, 3) := eX9_countBeside_24.2.2.2.2.2.1
theorem dX9_countBeside_52 : decode cX9_countBeside 52 = .ok (.iload_n 1, 1) := eX9_countBeside_24.2.2.2.2.2.2.1
theorem dX9_countBeside_53 : decode cX9_countBeside 53 = .ok (.iaload, 1) := eX9_countBeside_24.2.2.2.2.2.2.2
theorem eX9_countBeside_32 : (decode cX9_countBeside 54 = .ok (.invokevirtual 58, 3)) ∧ (decode cX9_countBeside 57 = .ok (.iadd, 1)) ∧ (decode cX9_countBeside 58 = .ok (.putfield 108, 3)) ∧ (decode cX9_countBeside 61 = .ok (.iinc 1 1, 3)) ∧ (decode cX9_countBeside 64 = .ok (.goto (-57), 3)) ∧ (decode cX9_countBeside 67 = .ok (.return_, 1)) := by decide +kernel
theorem dX9_countBeside_54 : decode cX9_countBeside 54 = .ok (.invokevirtual 58, 3) := eX9_countBeside_32.1
theorem dX9_countBeside_57 : decode cX9_countBeside 57 = .ok (.iadd, 1) := eX9_countBeside_32.2.1
theorem dX9_countBeside_58 : decode cX9_countBeside 58 = .ok (.putfield 108, 3) := eX9_countBeside_32.2.2.1
theorem dX9_countBeside_61 : decode cX9_countBeside 61 = .ok (.iinc 1 1, 3) := eX9_countBeside_32.2.2.2.1
theorem dX9_countBeside_64 : decode cX9_countBeside 64 = .ok (.goto (-57), 3) := eX9_countBeside_32.2.2.2.2.1
theorem dX9_countBeside_67 : decode cX9_countBeside 67 = .ok (.return_, 1) := eX9_countBeside_32.2.2.2.2.2
theorem eX9_gridWithout_0 : (decode cX9_gridWithout 0 = .ok (.iconst 0, 1)) ∧ (decode cX9_gridWithout 1 = .ok (.istore_n 2, 1)) ∧ (decode cX9_gridWithout 2 = .ok (.iconst 0, 1)) ∧ (decode cX9_gridWithout 3 = .ok (.istore_n 3, 1)) ∧ (decode cX9_gridWithout 4 = .ok (.iload_n 3, 1)) ∧ (decode cX9_gridWithout 5 = .ok (.aload_n 0, 1)) ∧ (decode cX9_gridWithout 6 = .ok (.getfield 36, 3)) ∧ (decode cX9_gridWithout 9 = .ok (.getfield 61, 3)) := by decide +kernel
theorem dX9_gridWithout_0 : decode cX9_gridWithout 0 = .ok (.iconst 0, 1) := eX9_gridWithout_0.1
theorem dX9_gridWithout_1 : decode cX9_gridWithout 1 = .ok (.istore_n 2, 1) := eX9_gridWithout_0.2.1
theorem dX9_gridWithout_2 : decode cX9_gridWithout 2 = .ok (.iconst 0, 1) := eX9_gridWithout_0.2.2.1
theorem dX9_gridWithout_3 : decode cX9_gridWithout 3 = .ok (.istore_n 3, 1) := eX9_gridWithout_0.2.2.2.1
theorem dX9_gridWithout_4 : decode cX9_gridWithout 4 = .ok (.iload_n 3, 1) := eX9_gridWithout_0.2.2.2.2.1
theorem dX9_gridWithout_5 : decode cX9_gridWithout 5 = .ok (.aload_n 0, 1) := eX9_gridWithout_0.2.2.2.2.2.1
theorem dX9_gridWithout_6 : decode cX9_gridWithout 6 = .ok (.getfield 36, 3) := eX9_gridWithout_0.2.2.2.2.2.2.1
theorem dX9_gridWithout_9 : decode cX9_gridWithout 9 = .ok (.getfield 61, 3) := eX9_gridWithout_0.2.2.2.2.2.2.2
theorem eX9_gridWithout_8 : (decode cX9_gridWithout 12 = .ok (.if_icmp .ge 72, 3)) ∧ (decode cX9_gridWithout 15 = .ok (.iload_n 3, 1)) ∧ (decode cX9_gridWithout 16 = .ok (.iload_n 1, 1)) ∧ (decode cX9_gridWithout 17 = .ok (.if_icmp .eq 61, 3)) ∧ (decode cX9_gridWithout 20 = .ok (.aload_n 0, 1)) ∧ (decode cX9_gridWithout 21 = .ok (.getfield 36, 3)) ∧ (decode cX9_gridWithout 24 = .ok (.getfield 66, 3)) ∧ (decode cX9_gridWithout 27 = .ok (.iload_n 3, 1)) := by decide +kernel
theorem dX9_gridWithout_12 : decode cX9_gridWithout 12 = .ok (.if_icmp .ge 72, 3) := eX9_gridWithout_8.1
theorem dX9_gridWithout_15 : decode cX9_gridWithout 15 = .ok (.iload_n 3, 1) := eX9_gridWithout_8.2.1
theorem dX9_gridWithout_16 : decode cX9_gridWithout 16 = .ok (.iload_n 1, 1) := eX9_gridWithout_8.2.2.1
theorem dX9_gridWithout_17 : decode cX9_gridWithout 17 = .ok (.if_icmp .eq 61, 3) := eX9_gridWithout_8.2.2.2.1
theorem dX9_gridWithout_20 : decode cX9_gridWithout 20 = .ok (.aload_n 0, 1) := eX9_gridWithout_8.2.2.2.2.1
theorem dX9_gridWithout_21 : decode cX9_gridWithout 21 = .ok (.getfield 36, 3) := eX9_gridWithout_8.2.2.2.2.2.1
theorem dX9_gridWithout_24 : decode cX9_gridWithout 24 = .ok (.getfield 66, 3) := eX9_gridWithout_8.2.2.2.2.2.2.1
theorem dX9_gridWithout_27 : decode cX9_gridWithout 27 = .ok (.iload_n 3, 1) := eX9_gridWithout_8.2.2.2.2.2.2.2
theorem eX9_gridWithout_16 : (decode cX9_gridWithout 28 = .ok (.baload, 1)) ∧ (decode cX9_gridWithout 29 = .ok (.ifCond .eq 49, 3)) ∧ (decode cX9_gridWithout 32 = .ok (.aload_n 0, 1)) ∧ (decode cX9_gridWithout 33 = .ok (.getfield 21, 3)) ∧ (decode cX9_gridWithout 36 = .ok (.iload_n 3, 1)) ∧ (decode cX9_gridWithout 37 = .ok (.aload_n 0, 1)) ∧ (decode cX9_gridWithout 38 = .ok (.iload_n 3, 1)) ∧ (decode cX9_gridWithout 39 = .ok (.iload_n 1, 1)) := by decide +kernel
theorem dX9_gridWithout_28 : decode cX9_gridWithout 28 = .ok (.baload, 1) := eX9_gridWithout_16.1
theorem dX9_gridWithout_29 : decode cX9_gridWithout 29 = .ok (.ifCond .eq 49, 3) := eX9_gridWithout_16.2.1
theorem dX9_gridWithout_32 : decode cX9_gridWithout 32 = .ok (.aload_n 0, 1) := eX9_gridWithout_16.2.2.1
theorem dX9_gridWithout_33 : decode cX9_gridWithout 33 = .ok (.getfield 21, 3) := eX9_gridWithout_16.2.2.2.1
theorem dX9_gridWithout_36 : decode cX9_gridWithout 36 = .ok (.iload_n 3, 1) := eX9_gridWithout_16.2.2.2.2.1
theorem dX9_gridWithout_37 : decode cX9_gridWithout 37 = .ok (.aload_n 0, 1) := eX9_gridWithout_16.2.2.2.2.2.1
theorem dX9_gridWithout_38 : decode cX9_gridWithout 38 = .ok (.iload_n 3, 1) := eX9_gridWithout_16.2.2.2.2.2.2.1
theorem dX9_gridWithout_39 : decode cX9_gridWithout 39 = .ok (.iload_n 1, 1) := eX9_gridWithout_16.2.2.2.2.2.2.2
theorem eX9_gridWithout_24 : (decode cX9_gridWithout 40 = .ok (.invokevirtual 111, 3)) ∧ (decode cX9_gridWithout 43 = .ok (.ifCond .eq 14, 3)) ∧ (decode cX9_gridWithout 46 = .ok (.aload_n 0, 1)) ∧ (decode cX9_gridWithout 47 = .ok (.getfield 18, 3)) ∧ (decode cX9_gridWithout 50 = .ok (.iload_n 3, 1)) ∧ (decode cX9_gridWithout 51 = .ok (.iaload, 1)) ∧ (decode cX9_gridWithout 52 = .ok (.iconst 1, 1)) ∧ (decode cX9_gridWithout 53 = .ok (.isub, 1)) := by decide +kernel
theorem dX9_gridWithout_40 : decode cX9_gridWithout 40 = .ok (.invokevirtual 111, 3) := eX9_gridWithout_24.1
theorem dX9_gridWithout_43 : decode cX9_gridWithout 43 = .ok (.ifCond .eq 14, 3) := eX9_gridWithout_24.2.1
theorem dX9_gridWithout_46 : decode cX9_gridWithout 46 = .ok (.aload_n 0, 1) := eX9_gridWithout_24.2.2.1
theorem dX9_gridWithout_47 : decode cX9_gridWithout 47 = .ok (.getfield 18, 3) := eX9_gridWithout_24.2.2.2.1
theorem dX9_gridWithout_50 : decode cX9_gridWithout 50 = .ok (.iload_n 3, 1) := eX9_gridWithout_24.2.2.2.2.1
theorem dX9_gridWithout_51 : decode cX9_gridWithout 51 = .ok (.iaload, 1) := eX9_gridWithout_24.2.2.2.2.2.1
theorem dX9_gridWithout_52 : decode cX9_gridWithout 52 = .ok (.iconst 1, 1) := eX9_gridWithout_24.2.2.2.2.2.2.1
theorem dX9_gridWithout_53 : decode cX9_gridWithout 53 = .ok (.isub, 1) := eX9_gridWithout_24.2.2.2.2.2.2.2
theorem eX9_gridWithout_32 : (decode cX9_gridWithout 54 = .ok (.goto 9, 3)) ∧ (decode cX9_gridWithout 57 = .ok (.aload_n 0, 1)) ∧ (decode cX9_gridWithout 58 = .ok (.getfield 18, 3)) ∧ (decode cX9_gridWithout 61 = .ok (.iload_n 3, 1)) ∧ (decode cX9_gridWithout 62 = .ok (.iaload, 1)) ∧ (decode cX9_gridWithout 63 = .ok (.iastore, 1)) ∧ (decode cX9_gridWithout 64 = .ok (.iload_n 2, 1)) ∧ (decode cX9_gridWithout 65 = .ok (.aload_n 0, 1)) := by decide +kernel
theorem dX9_gridWithout_54 : decode cX9_gridWithout 54 = .ok (.goto 9, 3) := eX9_gridWithout_32.1
theorem dX9_gridWithout_57 : decode cX9_gridWithout 57 = .ok (.aload_n 0, 1) := eX9_gridWithout_32.2.1
theorem dX9_gridWithout_58 : decode cX9_gridWithout 58 = .ok (.getfield 18, 3) := eX9_gridWithout_32.2.2.1
theorem dX9_gridWithout_61 : decode cX9_gridWithout 61 = .ok (.iload_n 3, 1) := eX9_gridWithout_32.2.2.2.1
theorem dX9_gridWithout_62 : decode cX9_gridWithout 62 = .ok (.iaload, 1) := eX9_gridWithout_32.2.2.2.2.1
theorem dX9_gridWithout_63 : decode cX9_gridWithout 63 = .ok (.iastore, 1) := eX9_gridWithout_32.2.2.2.2.2.1
theorem dX9_gridWithout_64 : decode cX9_gridWithout 64 = .ok (.iload_n 2, 1) := eX9_gridWithout_32.2.2.2.2.2.2.1
theorem dX9_gridWithout_65 : decode cX9_gridWithout 65 = .ok (.aload_n 0, 1) := eX9_gridWithout_32.2.2.2.2.2.2.2
theorem eX9_gridWithout_40 : (decode cX9_gridWithout 66 = .ok (.iload_n 3, 1)) ∧ (decode cX9_gridWithout 67 = .ok (.aload_n 0, 1)) ∧ (decode cX9_gridWithout 68 = .ok (.getfield 21, 3)) ∧ (decode cX9_gridWithout 71 = .ok (.iload_n 3, 1)) ∧ (decode cX9_gridWithout 72 = .ok (.iaload, 1)) ∧ (decode cX9_gridWithout 73 = .ok (.invokevirtual 58, 3)) ∧ (decode cX9_gridWithout 76 = .ok (.iadd, 1)) ∧ (decode cX9_gridWithout 77 = .ok (.istore_n 2, 1)) := by decide +kernel
theorem dX9_gridWithout_66 : decode cX9_gridWithout 66 = .ok (.iload_n 3, 1) := eX9_gridWithout_40.1
theorem dX9_gridWithout_67 : decode cX9_gridWithout 67 = .ok (.aload_n 0, 1) := eX9_gridWithout_40.2.1
theorem dX9_gridWithout_68 : decode cX9_gridWithout 68 = .ok (.getfield 21, 3) := eX9_gridWithout_40.2.2.1
theorem dX9_gridWithout_71 : decode cX9_gridWithout 71 = .ok (.iload_n 3, 1) := eX9_gridWithout_40.2.2.2.1
theorem dX9_gridWithout_72 : decode cX9_gridWithout 72 = .ok (.iaload, 1) := eX9_gridWithout_40.2.2.2.2.1
theorem dX9_gridWithout_73 : decode cX9_gridWithout 73 = .ok (.invokevirtual 58, 3) := eX9_gridWithout_40.2.2.2.2.2.1
theorem dX9_gridWithout_76 : decode cX9_gridWithout 76 = .ok (.iadd, 1) := eX9_gridWithout_40.2.2.2.2.2.2.1
theorem dX9_gridWithout_77 : decode cX9_gridWithout 77 = .ok (.istore_n 2, 1) := eX9_gridWithout_40.2.2.2.2.2.2.2
theorem eX9_gridWithout_48 : (decode cX9_gridWithout 78 = .ok (.iinc 3 1, 3)) ∧ (decode cX9_gridWithout 81 = .ok (.goto (-77), 3)) ∧ (decode cX9_gridWithout 84 = .ok (.iload_n 2, 1)) ∧ (decode cX9_gridWithout 85 = .ok (.ireturn, 1)) := by decide +kernel
theorem dX9_gridWithout_78 : decode cX9_gridWithout 78 = .ok (.iinc 3 1, 3) := eX9_gridWithout_48.1
theorem dX9_gridWithout_81 : decode cX9_gridWithout 81 = .ok (.goto (-77), 3) := eX9_gridWithout_48.2.1
theorem dX9_gridWithout_84 : decode cX9_gridWithout 84 = .ok (.iload_n 2, 1) := eX9_gridWithout_48.2.2.1
theorem dX9_gridWithout_85 : decode cX9_gridWithout 85 = .ok (.ireturn, 1) := eX9_gridWithout_48.2.2.2
theorem eX9_tryAt_0 : (decode cX9_tryAt 0 = .ok (.aload_n 0, 1)) ∧ (decode cX9_tryAt 1 = .ok (.getfield 36, 3)) ∧ (decode cX9_tryAt 4 = .ok (.getfield 115, 3)) ∧ (decode cX9_tryAt 7 = .ok (.iload_n 1, 1)) ∧ (decode cX9_tryAt 8 = .ok (.iaload, 1)) ∧ (decode cX9_tryAt 9 = .ok (.istore 5, 2)) ∧ (decode cX9_tryAt 11 = .ok (.aload_n 0, 1)) ∧ (decode cX9_tryAt 12 = .ok (.iload 5, 2)) := by decide +kernel
theorem dX9_tryAt_0 : decode cX9_tryAt 0 = .ok (.aload_n 0, 1) := eX9_tryAt_0.1
theorem dX9_tryAt_1 : decode cX9_tryAt 1 = .ok (.getfield 36, 3) := eX9_tryAt_0.2.1
theorem dX9_tryAt_4 : decode cX9_tryAt 4 = .ok (.getfield 115, 3) := eX9_tryAt_0.2.2.1
theorem dX9_tryAt_7 : decode cX9_tryAt 7 = .ok (.iload_n 1, 1) := eX9_tryAt_0.2.2.2.1
theorem dX9_tryAt_8 : decode cX9_tryAt 8 = .ok (.iaload, 1) := eX9_tryAt_0.2.2.2.2.1
theorem dX9_tryAt_9 : decode cX9_tryAt 9 = .ok (.istore 5, 2) := eX9_tryAt_0.2.2.2.2.2.1
theorem dX9_tryAt_11 : decode cX9_tryAt 11 = .ok (.aload_n 0, 1) := eX9_tryAt_0.2.2.2.2.2.2.1
theorem dX9_tryAt_12 : decode cX9_tryAt 12 = .ok (.iload 5, 2) := eX9_tryAt_0.2.2.2.2.2.2.2
theorem eX9_tryAt_8 : (decode cX9_tryAt 14 = .ok (.iload_n 3, 1)) ∧ (decode cX9_tryAt 15 = .ok (.iconst 0, 1)) ∧ (decode cX9_tryAt 16 = .ok (.invokevirtual 118, 3)) ∧ (decode cX9_tryAt 19 = .ok (.istore 6, 2)) ∧ (decode cX9_tryAt 21 = .ok (.iload 4, 2)) ∧ (decode cX9_tryAt 23 = .ok (.iload 6, 2)) ∧ (decode cX9_tryAt 25 = .ok (.aload_n 0, 1)) ∧ (decode cX9_tryAt 26 = .ok (.getfield 28, 3)) := by decide +kernel
theorem dX9_tryAt_14 : decode cX9_tryAt 14 = .ok (.iload_n 3, 1) := eX9_tryAt_8.1
theorem dX9_tryAt_15 : decode cX9_tryAt 15 = .ok (.iconst 0, 1) := eX9_tryAt_8.2.1
theorem dX9_tryAt_16 : decode cX9_tryAt 16 = .ok (.invokevirtual 118, 3) := eX9_tryAt_8.2.2.1
theorem dX9_tryAt_19 : decode cX9_tryAt 19 = .ok (.istore 6, 2) := eX9_tryAt_8.2.2.2.1
theorem dX9_tryAt_21 : decode cX9_tryAt 21 = .ok (.iload 4, 2) := eX9_tryAt_8.2.2.2.2.1
theorem dX9_tryAt_23 : decode cX9_tryAt 23 = .ok (.iload 6, 2) := eX9_tryAt_8.2.2.2.2.2.1
theorem dX9_tryAt_25 : decode cX9_tryAt 25 = .ok (.aload_n 0, 1) := eX9_tryAt_8.2.2.2.2.2.2.1
theorem dX9_tryAt_26 : decode cX9_tryAt 26 = .ok (.getfield 28, 3) := eX9_tryAt_8.2.2.2.2.2.2.2
theorem eX9_tryAt_16 : (decode cX9_tryAt 29 = .ok (.getfield 122, 3)) ∧ (decode cX9_tryAt 32 = .ok (.iload_n 2, 1)) ∧ (decode cX9_tryAt 33 = .ok (.iaload, 1)) ∧ (decode cX9_tryAt 34 = .ok (.invokestatic 125, 3)) ∧ (decode cX9_tryAt 37 = .ok (.iadd, 1)) ∧ (decode cX9_tryAt 38 = .ok (.aload_n 0, 1)) ∧ (decode cX9_tryAt 39 = .ok (.getfield 108, 3)) ∧ (decode cX9_tryAt 42 = .ok (.if_icmp .gt 4, 3)) := by decide +kernel
theorem dX9_tryAt_29 : decode cX9_tryAt 29 = .ok (.getfield 122, 3) := eX9_tryAt_16.1
theorem dX9_tryAt_32 : decode cX9_tryAt 32 = .ok (.iload_n 2, 1) := eX9_tryAt_16.2.1
theorem dX9_tryAt_33 : decode cX9_tryAt 33 = .ok (.iaload, 1) := eX9_tryAt_16.2.2.1
theorem dX9_tryAt_34 : decode cX9_tryAt 34 = .ok (.invokestatic 125, 3) := eX9_tryAt_16.2.2.2.1
theorem dX9_tryAt_37 : decode cX9_tryAt 37 = .ok (.iadd, 1) := eX9_tryAt_16.2.2.2.2.1
theorem dX9_tryAt_38 : decode cX9_tryAt 38 = .ok (.aload_n 0, 1) := eX9_tryAt_16.2.2.2.2.2.1
theorem dX9_tryAt_39 : decode cX9_tryAt 39 = .ok (.getfield 108, 3) := eX9_tryAt_16.2.2.2.2.2.2.1
theorem dX9_tryAt_42 : decode cX9_tryAt 42 = .ok (.if_icmp .gt 4, 3) := eX9_tryAt_16.2.2.2.2.2.2.2
theorem eX9_tryAt_24 : (decode cX9_tryAt 45 = .ok (.return_, 1)) ∧ (decode cX9_tryAt 46 = .ok (.iconst 0, 1)) ∧ (decode cX9_tryAt 47 = .ok (.istore 7, 2)) ∧ (decode cX9_tryAt 49 = .ok (.iload 4, 2)) ∧ (decode cX9_tryAt 51 = .ok (.istore 8, 2)) ∧ (decode cX9_tryAt 53 = .ok (.iload_n 3, 1)) ∧ (decode cX9_tryAt 54 = .ok (.aload_n 0, 1)) ∧ (decode cX9_tryAt 55 = .ok (.getfield 32, 3)) := by decide +kernel
theorem dX9_tryAt_45 : decode cX9_tryAt 45 = .ok (.return_, 1) := eX9_tryAt_24.1
theorem dX9_tryAt_46 : decode cX9_tryAt 46 = .ok (.iconst 0, 1) := eX9_tryAt_24.2.1
theorem dX9_tryAt_47 : decode cX9_tryAt 47 = .ok (.istore 7, 2) := eX9_tryAt_24.2.2.1
theorem dX9_tryAt_49 : decode cX9_tryAt 49 = .ok (.iload 4, 2) := eX9_tryAt_24.2.2.2.1
theorem dX9_tryAt_51 : decode cX9_tryAt 51 = .ok (.istore 8, 2) := eX9_tryAt_24.2.2.2.2.1
theorem dX9_tryAt_53 : decode cX9_tryAt 53 = .ok (.iload_n 3, 1) := eX9_tryAt_24.2.2.2.2.2.1
theorem dX9_tryAt_54 : decode cX9_tryAt 54 = .ok (.aload_n 0, 1) := eX9_tryAt_24.2.2.2.2.2.2.1
theorem dX9_tryAt_55 : decode cX9_tryAt 55 = .ok (.getfield 32, 3) := eX9_tryAt_24.2.2.2.2.2.2.2
theorem eX9_tryAt_32 : (decode cX9_tryAt 58 = .ok (.getfield 130, 3)) ∧ (decode cX9_tryAt 61 = .ok (.iload 5, 2)) ∧ (decode cX9_tryAt 63 = .ok (.iaload, 1)) ∧ (decode cX9_tryAt 64 = .ok (.iadd, 1)) ∧ (decode cX9_tryAt 65 = .ok (.istore 9, 2)) ∧ (decode cX9_tryAt 67 = .ok (.iconst 0, 1)) ∧ (decode cX9_tryAt 68 = .ok (.istore 10, 2)) ∧ (decode cX9_tryAt 70 = .ok (.iload 10, 2)) := by decide +kernel
theorem dX9_tryAt_58 : decode cX9_tryAt 58 = .ok (.getfield 130, 3) := eX9_tryAt_32.1
theorem dX9_tryAt_61 : decode cX9_tryAt 61 = .ok (.iload 5, 2) := eX9_tryAt_32.2.1
theorem dX9_tryAt_63 : decode cX9_tryAt 63 = .ok (.iaload, 1) := eX9_tryAt_32.2.2.1
theorem dX9_tryAt_64 : decode cX9_tryAt 64 = .ok (.iadd, 1) := eX9_tryAt_32.2.2.2.1
theorem dX9_tryAt_65 : decode cX9_tryAt 65 = .ok (.istore 9, 2) := eX9_tryAt_32.2.2.2.2.1
theorem dX9_tryAt_67 : decode cX9_tryAt 67 = .ok (.iconst 0, 1) := eX9_tryAt_32.2.2.2.2.2.1
theorem dX9_tryAt_68 : decode cX9_tryAt 68 = .ok (.istore 10, 2) := eX9_tryAt_32.2.2.2.2.2.2.1
theorem dX9_tryAt_70 : decode cX9_tryAt 70 = .ok (.iload 10, 2) := eX9_tryAt_32.2.2.2.2.2.2.2
theorem eX9_tryAt_40 : (decode cX9_tryAt 72 = .ok (.aload_n 0, 1)) ∧ (decode cX9_tryAt 73 = .ok (.getfield 36, 3)) ∧ (decode cX9_tryAt 76 = .ok (.getfield 61, 3)) ∧ (decode cX9_tryAt 79 = .ok (.if_icmp .ge 101, 3)) ∧ (decode cX9_tryAt 82 = .ok (.iload 10, 2)) ∧ (decode cX9_tryAt 84 = .ok (.iload_n 1, 1)) ∧ (decode cX9_tryAt 85 = .ok (.if_icmp .eq 89, 3)) ∧ (decode cX9_tryAt 88 = .ok (.aload_n 0, 1)) := by decide +kernel
theorem dX9_tryAt_72 : decode cX9_tryAt 72 = .ok (.aload_n 0, 1) := eX9_tryAt_40.1
theorem dX9_tryAt_73 : decode cX9_tryAt 73 = .ok (.getfield 36, 3) := eX9_tryAt_40.2.1
theorem dX9_tryAt_76 : decode cX9_tryAt 76 = .ok (.getfield 61, 3) := eX9_tryAt_40.2.2.1
theorem dX9_tryAt_79 : decode cX9_tryAt 79 = .ok (.if_icmp .ge 101, 3) := eX9_tryAt_40.2.2.2.1
theorem dX9_tryAt_82 : decode cX9_tryAt 82 = .ok (.iload 10, 2) := eX9_tryAt_40.2.2.2.2.1
theorem dX9_tryAt_84 : decode cX9_tryAt 84 = .ok (.iload_n 1, 1) := eX9_tryAt_40.2.2.2.2.2.1
theorem dX9_tryAt_85 : decode cX9_tryAt 85 = .ok (.if_icmp .eq 89, 3) := eX9_tryAt_40.2.2.2.2.2.2.1
theorem dX9_tryAt_88 : decode cX9_tryAt 88 = .ok (.aload_n 0, 1) := eX9_tryAt_40.2.2.2.2.2.2.2
theorem eX9_tryAt_48 : (decode cX9_tryAt 89 = .ok (.getfield 36, 3)) ∧ (decode cX9_tryAt 92 = .ok (.getfield 66, 3)) ∧ (decode cX9_tryAt 95 = .ok (.iload 10, 2)) ∧ (decode cX9_tryAt 97 = .ok (.baload, 1)) ∧ (decode cX9_tryAt 98 = .ok (.ifCond .eq 76, 3)) ∧ (decode cX9_tryAt 101 = .ok (.aload_n 0, 1)) ∧ (decode cX9_tryAt 102 = .ok (.getfield 28, 3)) ∧ (decode cX9_tryAt 105 = .ok (.iload_n 2, 1)) := by decide +kernel
theorem dX9_tryAt_89 : decode cX9_tryAt 89 = .ok (.getfield 36, 3) := eX9_tryAt_48.1
theorem dX9_tryAt_92 : decode cX9_tryAt 92 = .ok (.getfield 66, 3) := eX9_tryAt_48.2.1
theorem dX9_tryAt_95 : decode cX9_tryAt 95 = .ok (.iload 10, 2) := eX9_tryAt_48.2.2.1
theorem dX9_tryAt_97 : decode cX9_tryAt 97 = .ok (.baload, 1) := eX9_tryAt_48.2.2.2.1
theorem dX9_tryAt_98 : decode cX9_tryAt 98 = .ok (.ifCond .eq 76, 3) := eX9_tryAt_48.2.2.2.2.1
theorem dX9_tryAt_101 : decode cX9_tryAt 101 = .ok (.aload_n 0, 1) := eX9_tryAt_48.2.2.2.2.2.1
theorem dX9_tryAt_102 : decode cX9_tryAt 102 = .ok (.getfield 28, 3) := eX9_tryAt_48.2.2.2.2.2.2.1
theorem dX9_tryAt_105 : decode cX9_tryAt 105 = .ok (.iload_n 2, 1) := eX9_tryAt_48.2.2.2.2.2.2.2
theorem eX9_tryAt_56 : (decode cX9_tryAt 106 = .ok (.aload_n 0, 1)) ∧ (decode cX9_tryAt 107 = .ok (.getfield 36, 3)) ∧ (decode cX9_tryAt 110 = .ok (.getfield 135, 3)) ∧ (decode cX9_tryAt 113 = .ok (.iload 10, 2)) ∧ (decode cX9_tryAt 115 = .ok (.iaload, 1)) ∧ (decode cX9_tryAt 116 = .ok (.invokevirtual 138, 3)) ∧ (decode cX9_tryAt 119 = .ok (.ifCond .eq 55, 3)) ∧ (decode cX9_tryAt 122 = .ok (.aload_n 0, 1)) := by decide +kernel
theorem dX9_tryAt_106 : decode cX9_tryAt 106 = .ok (.aload_n 0, 1) := eX9_tryAt_56.1
theorem dX9_tryAt_107 : decode cX9_tryAt 107 = .ok (.getfield 36, 3) := eX9_tryAt_56.2.1
theorem dX9_tryAt_110 : decode cX9_tryAt 110 = .ok (.getfield 135, 3) := eX9_tryAt_56.2.2.1
theorem dX9_tryAt_113 : decode cX9_tryAt 113 = .ok (.iload 10, 2) := eX9_tryAt_56.2.2.2.1
theorem dX9_tryAt_115 : decode cX9_tryAt 115 = .ok (.iaload, 1) := eX9_tryAt_56.2.2.2.2.1
theorem dX9_tryAt_116 : decode cX9_tryAt 116 = .ok (.invokevirtual 138, 3) := eX9_tryAt_56.2.2.2.2.2.1
theorem dX9_tryAt_119 : decode cX9_tryAt 119 = .ok (.ifCond .eq 55, 3) := eX9_tryAt_56.2.2.2.2.2.2.1
theorem dX9_tryAt_122 : decode cX9_tryAt 122 = .ok (.aload_n 0, 1) := eX9_tryAt_56.2.2.2.2.2.2.2
theorem eX9_tryAt_64 : (decode cX9_tryAt 123 = .ok (.getfield 36, 3)) ∧ (decode cX9_tryAt 126 = .ok (.iload 10, 2)) ∧ (decode cX9_tryAt 128 = .ok (.iload_n 3, 1)) ∧ (decode cX9_tryAt 129 = .ok (.iload 9, 2)) ∧ (decode cX9_tryAt 131 = .ok (.invokevirtual 141, 3)) ∧ (decode cX9_tryAt 134 = .ok (.ifCond .eq 40, 3)) ∧ (decode cX9_tryAt 137 = .ok (.iinc 7 1, 3)) ∧ (decode cX9_tryAt 140 = .ok (.iload 8, 2)) := by decide +kernel
theorem dX9_tryAt_123 : decode cX9_tryAt 123 = .ok (.getfield 36, 3) := eX9_tryAt_64.1
theorem dX9_tryAt_126 : decode cX9_tryAt 126 = .ok (.iload 10, 2) := eX9_tryAt_64.2.1
theorem dX9_tryAt_128 : decode cX9_tryAt 128 = .ok (.iload_n 3, 1) := eX9_tryAt_64.2.2.1
theorem dX9_tryAt_129 : decode cX9_tryAt 129 = .ok (.iload 9, 2) := eX9_tryAt_64.2.2.2.1
theorem dX9_tryAt_131 : decode cX9_tryAt 131 = .ok (.invokevirtual 141, 3) := eX9_tryAt_64.2.2.2.2.1
theorem dX9_tryAt_134 : decode cX9_tryAt 134 = .ok (.ifCond .eq 40, 3) := eX9_tryAt_64.2.2.2.2.2.1
theorem dX9_tryAt_137 : decode cX9_tryAt 137 = .ok (.iinc 7 1, 3) := eX9_tryAt_64.2.2.2.2.2.2.1
theorem dX9_tryAt_140 : decode cX9_tryAt 140 = .ok (.iload 8, 2) := eX9_tryAt_64.2.2.2.2.2.2.2
theorem eX9_tryAt_72 : (decode cX9_tryAt 142 = .ok (.aload_n 0, 1)) ∧ (decode cX9_tryAt 143 = .ok (.iload 10, 2)) ∧ (decode cX9_tryAt 145 = .ok (.aload_n 0, 1)) ∧ (decode cX9_tryAt 146 = .ok (.getfield 21, 3)) ∧ (decode cX9_tryAt 149 = .ok (.iload 10, 2)) ∧ (decode cX9_tryAt 151 = .ok (.iaload, 1)) ∧ (decode cX9_tryAt 152 = .ok (.iconst 1, 1)) ∧ (decode cX9_tryAt 153 = .ok (.iadd, 1)) := by decide +kernel
theorem dX9_tryAt_142 : decode cX9_tryAt 142 = .ok (.aload_n 0, 1) := eX9_tryAt_72.1
theorem dX9_tryAt_143 : decode cX9_tryAt 143 = .ok (.iload 10, 2) := eX9_tryAt_72.2.1
theorem dX9_tryAt_145 : decode cX9_tryAt 145 = .ok (.aload_n 0, 1) := eX9_tryAt_72.2.2.1
theorem dX9_tryAt_146 : decode cX9_tryAt 146 = .ok (.getfield 21, 3) := eX9_tryAt_72.2.2.2.1
theorem dX9_tryAt_149 : decode cX9_tryAt 149 = .ok (.iload 10, 2) := eX9_tryAt_72.2.2.2.2.1
theorem dX9_tryAt_151 : decode cX9_tryAt 151 = .ok (.iaload, 1) := eX9_tryAt_72.2.2.2.2.2.1
theorem dX9_tryAt_152 : decode cX9_tryAt 152 = .ok (.iconst 1, 1) := eX9_tryAt_72.2.2.2.2.2.2.1
theorem dX9_tryAt_153 : decode cX9_tryAt 153 = .ok (.iadd, 1) := eX9_tryAt_72.2.2.2.2.2.2.2
theorem eX9_tryAt_80 : (decode cX9_tryAt 154 = .ok (.invokevirtual 58, 3)) ∧ (decode cX9_tryAt 157 = .ok (.aload_n 0, 1)) ∧ (decode cX9_tryAt 158 = .ok (.iload 10, 2)) ∧ (decode cX9_tryAt 160 = .ok (.aload_n 0, 1)) ∧ (decode cX9_tryAt 161 = .ok (.getfield 21, 3)) ∧ (decode cX9_tryAt 164 = .ok (.iload 10, 2)) ∧ (decode cX9_tryAt 166 = .ok (.iaload, 1)) ∧ (decode cX9_tryAt 167 = .ok (.invokevirtual 58, 3)) := by decide +kernel
theorem dX9_tryAt_154 : decode cX9_tryAt 154 = .ok (.invokevirtual 58, 3) := eX9_tryAt_80.1
theorem dX9_tryAt_157 : decode cX9_tryAt 157 = .ok (.aload_n 0, 1) := eX9_tryAt_80.2.1
theorem dX9_tryAt_158 : decode cX9_tryAt 158 = .ok (.iload 10, 2) := eX9_tryAt_80.2.2.1
theorem dX9_tryAt_160 : decode cX9_tryAt 160 = .ok (.aload_n 0, 1) := eX9_tryAt_80.2.2.2.1
theorem dX9_tryAt_161 : decode cX9_tryAt 161 = .ok (.getfield 21, 3) := eX9_tryAt_80.2.2.2.2.1
theorem dX9_tryAt_164 : decode cX9_tryAt 164 = .ok (.iload 10, 2) := eX9_tryAt_80.2.2.2.2.2.1
theorem dX9_tryAt_166 : decode cX9_tryAt 166 = .ok (.iaload, 1) := eX9_tryAt_80.2.2.2.2.2.2.1
theorem dX9_tryAt_167 : decode cX9_tryAt 167 = .ok (.invokevirtual 58, 3) := eX9_tryAt_80.2.2.2.2.2.2.2
theorem eX9_tryAt_88 : (decode cX9_tryAt 170 = .ok (.isub, 1)) ∧ (decode cX9_tryAt 171 = .ok (.iadd, 1)) ∧ (decode cX9_tryAt 172 = .ok (.istore 8, 2)) ∧ (decode cX9_tryAt 174 = .ok (.iinc 10 1, 3)) ∧ (decode cX9_tryAt 177 = .ok (.goto (-107), 3)) ∧ (decode cX9_tryAt 180 = .ok (.iload 8, 2)) ∧ (decode cX9_tryAt 182 = .ok (.aload_n 0, 1)) ∧ (decode cX9_tryAt 183 = .ok (.iload 5, 2)) := by decide +kernel
theorem dX9_tryAt_170 : decode cX9_tryAt 170 = .ok (.isub, 1) := eX9_tryAt_88.1
theorem dX9_tryAt_171 : decode cX9_tryAt 171 = .ok (.iadd, 1) := eX9_tryAt_88.2.1
theorem dX9_tryAt_172 : decode cX9_tryAt 172 = .ok (.istore 8, 2) := eX9_tryAt_88.2.2.1
theorem dX9_tryAt_174 : decode cX9_tryAt 174 = .ok (.iinc 10 1, 3) := eX9_tryAt_88.2.2.2.1
theorem dX9_tryAt_177 : decode cX9_tryAt 177 = .ok (.goto (-107), 3) := eX9_tryAt_88.2.2.2.2.1
theorem dX9_tryAt_180 : decode cX9_tryAt 180 = .ok (.iload 8, 2) := eX9_tryAt_88.2.2.2.2.2.1
theorem dX9_tryAt_182 : decode cX9_tryAt 182 = .ok (.aload_n 0, 1) := eX9_tryAt_88.2.2.2.2.2.2.1
theorem dX9_tryAt_183 : decode cX9_tryAt 183 = .ok (.iload 5, 2) := eX9_tryAt_88.2.2.2.2.2.2.2
theorem eX9_tryAt_96 : (decode cX9_tryAt 185 = .ok (.iload_n 3, 1)) ∧ (decode cX9_tryAt 186 = .ok (.iload 7, 2)) ∧ (decode cX9_tryAt 188 = .ok (.invokevirtual 118, 3)) ∧ (decode cX9_tryAt 191 = .ok (.aload_n 0, 1)) ∧ (decode cX9_tryAt 192 = .ok (.getfield 28, 3)) ∧ (decode cX9_tryAt 195 = .ok (.getfield 122, 3)) ∧ (decode cX9_tryAt 198 = .ok (.iload_n 2, 1)) ∧ (decode cX9_tryAt 199 = .ok (.iaload, 1)) := by decide +kernel
theorem dX9_tryAt_185 : decode cX9_tryAt 185 = .ok (.iload_n 3, 1) := eX9_tryAt_96.1
theorem dX9_tryAt_186 : decode cX9_tryAt 186 = .ok (.iload 7, 2) := eX9_tryAt_96.2.1
theorem dX9_tryAt_188 : decode cX9_tryAt 188 = .ok (.invokevirtual 118, 3) := eX9_tryAt_96.2.2.1
theorem dX9_tryAt_191 : decode cX9_tryAt 191 = .ok (.aload_n 0, 1) := eX9_tryAt_96.2.2.2.1
theorem dX9_tryAt_192 : decode cX9_tryAt 192 = .ok (.getfield 28, 3) := eX9_tryAt_96.2.2.2.2.1
theorem dX9_tryAt_195 : decode cX9_tryAt 195 = .ok (.getfield 122, 3) := eX9_tryAt_96.2.2.2.2.2.1
theorem dX9_tryAt_198 : decode cX9_tryAt 198 = .ok (.iload_n 2, 1) := eX9_tryAt_96.2.2.2.2.2.2.1
theorem dX9_tryAt_199 : decode cX9_tryAt 199 = .ok (.iaload, 1) := eX9_tryAt_96.2.2.2.2.2.2.2
theorem eX9_tryAt_104 : (decode cX9_tryAt 200 = .ok (.invokestatic 125, 3)) ∧ (decode cX9_tryAt 203 = .ok (.iadd, 1)) ∧ (decode cX9_tryAt 204 = .ok (.istore 8, 2)) ∧ (decode cX9_tryAt 206 = .ok (.iload 8, 2)) ∧ (decode cX9_tryAt 208 = .ok (.aload_n 0, 1)) ∧ (decode cX9_tryAt 209 = .ok (.getfield 108, 3)) ∧ (decode cX9_tryAt 212 = .ok (.if_icmp .le 48, 3)) ∧ (decode cX9_tryAt 215 = .ok (.aload_n 0, 1)) := by decide +kernel
theorem dX9_tryAt_200 : decode cX9_tryAt 200 = .ok (.invokestatic 125, 3) := eX9_tryAt_104.1
theorem dX9_tryAt_203 : decode cX9_tryAt 203 = .ok (.iadd, 1) := eX9_tryAt_104.2.1
theorem dX9_tryAt_204 : decode cX9_tryAt 204 = .ok (.istore 8, 2) := eX9_tryAt_104.2.2.1
theorem dX9_tryAt_206 : decode cX9_tryAt 206 = .ok (.iload 8, 2) := eX9_tryAt_104.2.2.2.1
theorem dX9_tryAt_208 : decode cX9_tryAt 208 = .ok (.aload_n 0, 1) := eX9_tryAt_104.2.2.2.2.1
theorem dX9_tryAt_209 : decode cX9_tryAt 209 = .ok (.getfield 108, 3) := eX9_tryAt_104.2.2.2.2.2.1
theorem dX9_tryAt_212 : decode cX9_tryAt 212 = .ok (.if_icmp .le 48, 3) := eX9_tryAt_104.2.2.2.2.2.2.1
theorem dX9_tryAt_215 : decode cX9_tryAt 215 = .ok (.aload_n 0, 1) := eX9_tryAt_104.2.2.2.2.2.2.2
theorem eX9_tryAt_112 : (decode cX9_tryAt 216 = .ok (.getfield 40, 3)) ∧ (decode cX9_tryAt 219 = .ok (.iload 5, 2)) ∧ (decode cX9_tryAt 221 = .ok (.iload_n 2, 1)) ∧ (decode cX9_tryAt 222 = .ok (.iload_n 3, 1)) ∧ (decode cX9_tryAt 223 = .ok (.aload_n 0, 1)) ∧ (decode cX9_tryAt 224 = .ok (.getfield 36, 3)) ∧ (decode cX9_tryAt 227 = .ok (.getfield 145, 3)) ∧ (decode cX9_tryAt 230 = .ok (.iload_n 1, 1)) := by decide +kernel
theorem dX9_tryAt_216 : decode cX9_tryAt 216 = .ok (.getfield 40, 3) := eX9_tryAt_112.1
theorem dX9_tryAt_219 : decode cX9_tryAt 219 = .ok (.iload 5, 2) := eX9_tryAt_112.2.1
theorem dX9_tryAt_221 : decode cX9_tryAt 221 = .ok (.iload_n 2, 1) := eX9_tryAt_112.2.2.1
theorem dX9_tryAt_222 : decode cX9_tryAt 222 = .ok (.iload_n 3, 1) := eX9_tryAt_112.2.2.2.1
theorem dX9_tryAt_223 : decode cX9_tryAt 223 = .ok (.aload_n 0, 1) := eX9_tryAt_112.2.2.2.2.1
theorem dX9_tryAt_224 : decode cX9_tryAt 224 = .ok (.getfield 36, 3) := eX9_tryAt_112.2.2.2.2.2.1
theorem dX9_tryAt_227 : decode cX9_tryAt 227 = .ok (.getfield 145, 3) := eX9_tryAt_112.2.2.2.2.2.2.1
theorem dX9_tryAt_230 : decode cX9_tryAt 230 = .ok (.iload_n 1, 1) := eX9_tryAt_112.2.2.2.2.2.2.2
theorem eX9_tryAt_120 : (decode cX9_tryAt 231 = .ok (.iaload, 1)) ∧ (decode cX9_tryAt 232 = .ok (.iload_n 1, 1)) ∧ (decode cX9_tryAt 233 = .ok (.invokevirtual 148, 3)) ∧ (decode cX9_tryAt 236 = .ok (.ifCond .ne 24, 3)) ∧ (decode cX9_tryAt 239 = .ok (.aload_n 0, 1)) ∧ (decode cX9_tryAt 240 = .ok (.iload 8, 2)) ∧ (decode cX9_tryAt 242 = .ok (.putfield 108, 3)) ∧ (decode cX9_tryAt 245 = .ok (.aload_n 0, 1)) := by decide +kernel
theorem dX9_tryAt_231 : decode cX9_tryAt 231 = .ok (.iaload, 1) := eX9_tryAt_120.1
theorem dX9_tryAt_232 : decode cX9_tryAt 232 = .ok (.iload_n 1, 1) := eX9_tryAt_120.2.1
theorem dX9_tryAt_233 : decode cX9_tryAt 233 = .ok (.invokevirtual 148, 3) := eX9_tryAt_120.2.2.1
theorem dX9_tryAt_236 : decode cX9_tryAt 236 = .ok (.ifCond .ne 24, 3) := eX9_tryAt_120.2.2.2.1
theorem dX9_tryAt_239 : decode cX9_tryAt 239 = .ok (.aload_n 0, 1) := eX9_tryAt_120.2.2.2.2.1
theorem dX9_tryAt_240 : decode cX9_tryAt 240 = .ok (.iload 8, 2) := eX9_tryAt_120.2.2.2.2.2.1
theorem dX9_tryAt_242 : decode cX9_tryAt 242 = .ok (.putfield 108, 3) := eX9_tryAt_120.2.2.2.2.2.2.1
theorem dX9_tryAt_245 : decode cX9_tryAt 245 = .ok (.aload_n 0, 1) := eX9_tryAt_120.2.2.2.2.2.2.2
theorem eX9_tryAt_128 : (decode cX9_tryAt 246 = .ok (.iload_n 1, 1)) ∧ (decode cX9_tryAt 247 = .ok (.putfield 77, 3)) ∧ (decode cX9_tryAt 250 = .ok (.aload_n 0, 1)) ∧ (decode cX9_tryAt 251 = .ok (.iload_n 2, 1)) ∧ (decode cX9_tryAt 252 = .ok (.putfield 80, 3)) ∧ (decode cX9_tryAt 255 = .ok (.aload_n 0, 1)) ∧ (decode cX9_tryAt 256 = .ok (.iload_n 3, 1)) ∧ (decode cX9_tryAt 257 = .ok (.putfield 83, 3)) := by decide +kernel
theorem dX9_tryAt_246 : decode cX9_tryAt 246 = .ok (.iload_n 1, 1) := eX9_tryAt_128.1
theorem dX9_tryAt_247 : decode cX9_tryAt 247 = .ok (.putfield 77, 3) := eX9_tryAt_128.2.1
theorem dX9_tryAt_250 : decode cX9_tryAt 250 = .ok (.aload_n 0, 1) := eX9_tryAt_128.2.2.1
theorem dX9_tryAt_251 : decode cX9_tryAt 251 = .ok (.iload_n 2, 1) := eX9_tryAt_128.2.2.2.1
theorem dX9_tryAt_252 : decode cX9_tryAt 252 = .ok (.putfield 80, 3) := eX9_tryAt_128.2.2.2.2.1
theorem dX9_tryAt_255 : decode cX9_tryAt 255 = .ok (.aload_n 0, 1) := eX9_tryAt_128.2.2.2.2.2.1
theorem dX9_tryAt_256 : decode cX9_tryAt 256 = .ok (.iload_n 3, 1) := eX9_tryAt_128.2.2.2.2.2.2.1
theorem dX9_tryAt_257 : decode cX9_tryAt 257 = .ok (.putfield 83, 3) := eX9_tryAt_128.2.2.2.2.2.2.2
theorem dX9_tryAt_260 : decode cX9_tryAt 260 = .ok (.return_, 1) := by decide +kernel
theorem eX9_manyBeside_0 : (decode cX9_manyBeside 0 = .ok (.iconst 0, 1)) ∧ (decode cX9_manyBeside 1 = .ok (.istore_n 2, 1)) ∧ (decode cX9_manyBeside 2 = .ok (.iconst 0, 1)) ∧ (decode cX9_manyBeside 3 = .ok (.istore_n 3, 1)) ∧ (decode cX9_manyBeside 4 = .ok (.iload_n 3, 1)) ∧ (decode cX9_manyBeside 5 = .ok (.aload_n 0, 1)) ∧ (decode cX9_manyBeside 6 = .ok (.getfield 36, 3)) ∧ (decode cX9_manyBeside 9 = .ok (.getfield 61, 3)) := by decide +kernel
theorem dX9_manyBeside_0 : decode cX9_manyBeside 0 = .ok (.iconst 0, 1) := eX9_manyBeside_0.1
theorem dX9_manyBeside_1 : decode cX9_manyBeside 1 = .ok (.istore_n 2, 1) := eX9_manyBeside_0.2.1
theorem dX9_manyBeside_2 : decode cX9_manyBeside 2 = .ok (.iconst 0, 1) := eX9_manyBeside_0.2.2.1
theorem dX9_manyBeside_3 : decode cX9_manyBeside 3 = .ok (.istore_n 3, 1) := eX9_manyBeside_0.2.2.2.1
theorem dX9_manyBeside_4 : decode cX9_manyBeside 4 = .ok (.iload_n 3, 1) := eX9_manyBeside_0.2.2.2.2.1
theorem dX9_manyBeside_5 : decode cX9_manyBeside 5 = .ok (.aload_n 0, 1) := eX9_manyBeside_0.2.2.2.2.2.1
theorem dX9_manyBeside_6 : decode cX9_manyBeside 6 = .ok (.getfield 36, 3) := eX9_manyBeside_0.2.2.2.2.2.2.1
theorem dX9_manyBeside_9 : decode cX9_manyBeside 9 = .ok (.getfield 61, 3) := eX9_manyBeside_0.2.2.2.2.2.2.2
theorem eX9_manyBeside_8 : (decode cX9_manyBeside 12 = .ok (.if_icmp .ge 38, 3)) ∧ (decode cX9_manyBeside 15 = .ok (.iload_n 3, 1)) ∧ (decode cX9_manyBeside 16 = .ok (.iload_n 1, 1)) ∧ (decode cX9_manyBeside 17 = .ok (.if_icmp .eq 27, 3)) ∧ (decode cX9_manyBeside 20 = .ok (.aload_n 0, 1)) ∧ (decode cX9_manyBeside 21 = .ok (.getfield 36, 3)) ∧ (decode cX9_manyBeside 24 = .ok (.getfield 66, 3)) ∧ (decode cX9_manyBeside 27 = .ok (.iload_n 3, 1)) := by decide +kernel
theorem dX9_manyBeside_12 : decode cX9_manyBeside 12 = .ok (.if_icmp .ge 38, 3) := eX9_manyBeside_8.1
theorem dX9_manyBeside_15 : decode cX9_manyBeside 15 = .ok (.iload_n 3, 1) := eX9_manyBeside_8.2.1
theorem dX9_manyBeside_16 : decode cX9_manyBeside 16 = .ok (.iload_n 1, 1) := eX9_manyBeside_8.2.2.1
theorem dX9_manyBeside_17 : decode cX9_manyBeside 17 = .ok (.if_icmp .eq 27, 3) := eX9_manyBeside_8.2.2.2.1
theorem dX9_manyBeside_20 : decode cX9_manyBeside 20 = .ok (.aload_n 0, 1) := eX9_manyBeside_8.2.2.2.2.1
theorem dX9_manyBeside_21 : decode cX9_manyBeside 21 = .ok (.getfield 36, 3) := eX9_manyBeside_8.2.2.2.2.2.1
theorem dX9_manyBeside_24 : decode cX9_manyBeside 24 = .ok (.getfield 66, 3) := eX9_manyBeside_8.2.2.2.2.2.2.1
theorem dX9_manyBeside_27 : decode cX9_manyBeside 27 = .ok (.iload_n 3, 1) := eX9_manyBeside_8.2.2.2.2.2.2.2
theorem eX9_manyBeside_16 : (decode cX9_manyBeside 28 = .ok (.baload, 1)) ∧ (decode cX9_manyBeside 29 = .ok (.ifCond .eq 15, 3)) ∧ (decode cX9_manyBeside 32 = .ok (.aload_n 0, 1)) ∧ (decode cX9_manyBeside 33 = .ok (.iload_n 3, 1)) ∧ (decode cX9_manyBeside 34 = .ok (.iload_n 1, 1)) ∧ (decode cX9_manyBeside 35 = .ok (.invokevirtual 111, 3)) ∧ (decode cX9_manyBeside 38 = .ok (.ifCond .eq 6, 3)) ∧ (decode cX9_manyBeside 41 = .ok (.iinc 2 1, 3)) := by decide +kernel
theorem dX9_manyBeside_28 : decode cX9_manyBeside 28 = .ok (.baload, 1) := eX9_manyBeside_16.1
theorem dX9_manyBeside_29 : decode cX9_manyBeside 29 = .ok (.ifCond .eq 15, 3) := eX9_manyBeside_16.2.1
theorem dX9_manyBeside_32 : decode cX9_manyBeside 32 = .ok (.aload_n 0, 1) := eX9_manyBeside_16.2.2.1
theorem dX9_manyBeside_33 : decode cX9_manyBeside 33 = .ok (.iload_n 3, 1) := eX9_manyBeside_16.2.2.2.1
theorem dX9_manyBeside_34 : decode cX9_manyBeside 34 = .ok (.iload_n 1, 1) := eX9_manyBeside_16.2.2.2.2.1
theorem dX9_manyBeside_35 : decode cX9_manyBeside 35 = .ok (.invokevirtual 111, 3) := eX9_manyBeside_16.2.2.2.2.2.1
theorem dX9_manyBeside_38 : decode cX9_manyBeside 38 = .ok (.ifCond .eq 6, 3) := eX9_manyBeside_16.2.2.2.2.2.2.1
theorem dX9_manyBeside_41 : decode cX9_manyBeside 41 = .ok (.iinc 2 1, 3) := eX9_manyBeside_16.2.2.2.2.2.2.2
theorem eX9_manyBeside_24 : (decode cX9_manyBeside 44 = .ok (.iinc 3 1, 3)) ∧ (decode cX9_manyBeside 47 = .ok (.goto (-43), 3)) ∧ (decode cX9_manyBeside 50 = .ok (.iload_n 2, 1)) ∧ (decode cX9_manyBeside 51 = .ok (.ireturn, 1)) := by decide +kernel
theorem dX9_manyBeside_44 : decode cX9_manyBeside 44 = .ok (.iinc 3 1, 3) := eX9_manyBeside_24.1
theorem dX9_manyBeside_47 : decode cX9_manyBeside 47 = .ok (.goto (-43), 3) := eX9_manyBeside_24.2.1
theorem dX9_manyBeside_50 : decode cX9_manyBeside 50 = .ok (.iload_n 2, 1) := eX9_manyBeside_24.2.2.1
theorem dX9_manyBeside_51 : decode cX9_manyBeside 51 = .ok (.ireturn, 1) := eX9_manyBeside_24.2.2.2
theorem eX9_runBeside_0 : (decode cX9_runBeside 0 = .ok (.aload_n 0, 1)) ∧ (decode cX9_runBeside 1 = .ok (.getfield 28, 3)) ∧ (decode cX9_runBeside 4 = .ok (.aload_n 0, 1)) ∧ (decode cX9_runBeside 5 = .ok (.getfield 36, 3)) ∧ (decode cX9_runBeside 8 = .ok (.getfield 135, 3)) ∧ (decode cX9_runBeside 11 = .ok (.iload_n 1, 1)) ∧ (decode cX9_runBeside 12 = .ok (.iaload, 1)) ∧ (decode cX9_runBeside 13 = .ok (.aload_n 0, 1)) := by decide +kernel
theorem dX9_runBeside_0 : decode cX9_runBeside 0 = .ok (.aload_n 0, 1) := eX9_runBeside_0.1
theorem dX9_runBeside_1 : decode cX9_runBeside 1 = .ok (.getfield 28, 3) := eX9_runBeside_0.2.1
theorem dX9_runBeside_4 : decode cX9_runBeside 4 = .ok (.aload_n 0, 1) := eX9_runBeside_0.2.2.1
theorem dX9_runBeside_5 : decode cX9_runBeside 5 = .ok (.getfield 36, 3) := eX9_runBeside_0.2.2.2.1
theorem dX9_runBeside_8 : decode cX9_runBeside 8 = .ok (.getfield 135, 3) := eX9_runBeside_0.2.2.2.2.1
theorem dX9_runBeside_11 : decode cX9_runBeside 11 = .ok (.iload_n 1, 1) := eX9_runBeside_0.2.2.2.2.2.1
theorem dX9_runBeside_12 : decode cX9_runBeside 12 = .ok (.iaload, 1) := eX9_runBeside_0.2.2.2.2.2.2.1
theorem dX9_runBeside_13 : decode cX9_runBeside 13 = .ok (.aload_n 0, 1) := eX9_runBeside_0.2.2.2.2.2.2.2
theorem eX9_runBeside_8 : (decode cX9_runBeside 14 = .ok (.getfield 36, 3)) ∧ (decode cX9_runBeside 17 = .ok (.getfield 135, 3)) ∧ (decode cX9_runBeside 20 = .ok (.iload_n 2, 1)) ∧ (decode cX9_runBeside 21 = .ok (.iaload, 1)) ∧ (decode cX9_runBeside 22 = .ok (.invokevirtual 138, 3)) ∧ (decode cX9_runBeside 25 = .ok (.ifCond .eq 36, 3)) ∧ (decode cX9_runBeside 28 = .ok (.aload_n 0, 1)) ∧ (decode cX9_runBeside 29 = .ok (.getfield 36, 3)) := by decide +kernel
theorem dX9_runBeside_14 : decode cX9_runBeside 14 = .ok (.getfield 36, 3) := eX9_runBeside_8.1
theorem dX9_runBeside_17 : decode cX9_runBeside 17 = .ok (.getfield 135, 3) := eX9_runBeside_8.2.1
theorem dX9_runBeside_20 : decode cX9_runBeside 20 = .ok (.iload_n 2, 1) := eX9_runBeside_8.2.2.1
theorem dX9_runBeside_21 : decode cX9_runBeside 21 = .ok (.iaload, 1) := eX9_runBeside_8.2.2.2.1
theorem dX9_runBeside_22 : decode cX9_runBeside 22 = .ok (.invokevirtual 138, 3) := eX9_runBeside_8.2.2.2.2.1
theorem dX9_runBeside_25 : decode cX9_runBeside 25 = .ok (.ifCond .eq 36, 3) := eX9_runBeside_8.2.2.2.2.2.1
theorem dX9_runBeside_28 : decode cX9_runBeside 28 = .ok (.aload_n 0, 1) := eX9_runBeside_8.2.2.2.2.2.2.1
theorem dX9_runBeside_29 : decode cX9_runBeside 29 = .ok (.getfield 36, 3) := eX9_runBeside_8.2.2.2.2.2.2.2
theorem eX9_runBeside_16 : (decode cX9_runBeside 32 = .ok (.iload_n 1, 1)) ∧ (decode cX9_runBeside 33 = .ok (.aload_n 0, 1)) ∧ (decode cX9_runBeside 34 = .ok (.getfield 36, 3)) ∧ (decode cX9_runBeside 37 = .ok (.getfield 101, 3)) ∧ (decode cX9_runBeside 40 = .ok (.iload_n 2, 1)) ∧ (decode cX9_runBeside 41 = .ok (.iaload, 1)) ∧ (decode cX9_runBeside 42 = .ok (.aload_n 0, 1)) ∧ (decode cX9_runBeside 43 = .ok (.getfield 36, 3)) := by decide +kernel
theorem dX9_runBeside_32 : decode cX9_runBeside 32 = .ok (.iload_n 1, 1) := eX9_runBeside_16.1
theorem dX9_runBeside_33 : decode cX9_runBeside 33 = .ok (.aload_n 0, 1) := eX9_runBeside_16.2.1
theorem dX9_runBeside_34 : decode cX9_runBeside 34 = .ok (.getfield 36, 3) := eX9_runBeside_16.2.2.1
theorem dX9_runBeside_37 : decode cX9_runBeside 37 = .ok (.getfield 101, 3) := eX9_runBeside_16.2.2.2.1
theorem dX9_runBeside_40 : decode cX9_runBeside 40 = .ok (.iload_n 2, 1) := eX9_runBeside_16.2.2.2.2.1
theorem dX9_runBeside_41 : decode cX9_runBeside 41 = .ok (.iaload, 1) := eX9_runBeside_16.2.2.2.2.2.1
theorem dX9_runBeside_42 : decode cX9_runBeside 42 = .ok (.aload_n 0, 1) := eX9_runBeside_16.2.2.2.2.2.2.1
theorem dX9_runBeside_43 : decode cX9_runBeside 43 = .ok (.getfield 36, 3) := eX9_runBeside_16.2.2.2.2.2.2.2
theorem eX9_runBeside_24 : (decode cX9_runBeside 46 = .ok (.getfield 154, 3)) ∧ (decode cX9_runBeside 49 = .ok (.iload_n 2, 1)) ∧ (decode cX9_runBeside 50 = .ok (.iaload, 1)) ∧ (decode cX9_runBeside 51 = .ok (.invokevirtual 141, 3)) ∧ (decode cX9_runBeside 54 = .ok (.ifCond .eq 7, 3)) ∧ (decode cX9_runBeside 57 = .ok (.iconst 1, 1)) ∧ (decode cX9_runBeside 58 = .ok (.goto 4, 3)) ∧ (decode cX9_runBeside 61 = .ok (.iconst 0, 1)) := by decide +kernel
theorem dX9_runBeside_46 : decode cX9_runBeside 46 = .ok (.getfield 154, 3) := eX9_runBeside_24.1
theorem dX9_runBeside_49 : decode cX9_runBeside 49 = .ok (.iload_n 2, 1) := eX9_runBeside_24.2.1
theorem dX9_runBeside_50 : decode cX9_runBeside 50 = .ok (.iaload, 1) := eX9_runBeside_24.2.2.1
theorem dX9_runBeside_51 : decode cX9_runBeside 51 = .ok (.invokevirtual 141, 3) := eX9_runBeside_24.2.2.2.1
theorem dX9_runBeside_54 : decode cX9_runBeside 54 = .ok (.ifCond .eq 7, 3) := eX9_runBeside_24.2.2.2.2.1
theorem dX9_runBeside_57 : decode cX9_runBeside 57 = .ok (.iconst 1, 1) := eX9_runBeside_24.2.2.2.2.2.1
theorem dX9_runBeside_58 : decode cX9_runBeside 58 = .ok (.goto 4, 3) := eX9_runBeside_24.2.2.2.2.2.2.1
theorem dX9_runBeside_61 : decode cX9_runBeside 61 = .ok (.iconst 0, 1) := eX9_runBeside_24.2.2.2.2.2.2.2
theorem dX9_runBeside_62 : decode cX9_runBeside 62 = .ok (.ireturn, 1) := by decide +kernel
theorem eX9_crowd_0 : (decode cX9_crowd 0 = .ok (.aload_n 0, 1)) ∧ (decode cX9_crowd 1 = .ok (.aload_n 0, 1)) ∧ (decode cX9_crowd 2 = .ok (.getfield 36, 3)) ∧ (decode cX9_crowd 5 = .ok (.getfield 115, 3)) ∧ (decode cX9_crowd 8 = .ok (.iload_n 1, 1)) ∧ (decode cX9_crowd 9 = .ok (.iaload, 1)) ∧ (decode cX9_crowd 10 = .ok (.aload_n 0, 1)) ∧ (decode cX9_crowd 11 = .ok (.getfield 36, 3)) := by decide +kernel
theorem dX9_crowd_0 : decode cX9_crowd 0 = .ok (.aload_n 0, 1) := eX9_crowd_0.1
theorem dX9_crowd_1 : decode cX9_crowd 1 = .ok (.aload_n 0, 1) := eX9_crowd_0.2.1
theorem dX9_crowd_2 : decode cX9_crowd 2 = .ok (.getfield 36, 3) := eX9_crowd_0.2.2.1
theorem dX9_crowd_5 : decode cX9_crowd 5 = .ok (.getfield 115, 3) := eX9_crowd_0.2.2.2.1
theorem dX9_crowd_8 : decode cX9_crowd 8 = .ok (.iload_n 1, 1) := eX9_crowd_0.2.2.2.2.1
theorem dX9_crowd_9 : decode cX9_crowd 9 = .ok (.iaload, 1) := eX9_crowd_0.2.2.2.2.2.1
theorem dX9_crowd_10 : decode cX9_crowd 10 = .ok (.aload_n 0, 1) := eX9_crowd_0.2.2.2.2.2.2.1
theorem dX9_crowd_11 : decode cX9_crowd 11 = .ok (.getfield 36, 3) := eX9_crowd_0.2.2.2.2.2.2.2
theorem eX9_crowd_8 : (decode cX9_crowd 14 = .ok (.getfield 101, 3)) ∧ (decode cX9_crowd 17 = .ok (.iload_n 1, 1)) ∧ (decode cX9_crowd 18 = .ok (.iaload, 1)) ∧ (decode cX9_crowd 19 = .ok (.iload_n 2, 1)) ∧ (decode cX9_crowd 20 = .ok (.invokevirtual 118, 3)) ∧ (decode cX9_crowd 23 = .ok (.ireturn, 1)) := by decide +kernel
theorem dX9_crowd_14 : decode cX9_crowd 14 = .ok (.getfield 101, 3) := eX9_crowd_8.1
theorem dX9_crowd_17 : decode cX9_crowd 17 = .ok (.iload_n 1, 1) := eX9_crowd_8.2.1
theorem dX9_crowd_18 : decode cX9_crowd 18 = .ok (.iaload, 1) := eX9_crowd_8.2.2.1
theorem dX9_crowd_19 : decode cX9_crowd 19 = .ok (.iload_n 2, 1) := eX9_crowd_8.2.2.2.1
theorem dX9_crowd_20 : decode cX9_crowd 20 = .ok (.invokevirtual 118, 3) := eX9_crowd_8.2.2.2.2.1
theorem dX9_crowd_23 : decode cX9_crowd 23 = .ok (.ireturn, 1) := eX9_crowd_8.2.2.2.2.2
theorem eX9_worth_0 : (decode cX9_worth 0 = .ok (.aload_n 0, 1)) ∧ (decode cX9_worth 1 = .ok (.iload_n 1, 1)) ∧ (decode cX9_worth 2 = .ok (.iload_n 2, 1)) ∧ (decode cX9_worth 3 = .ok (.invokevirtual 54, 3)) ∧ (decode cX9_worth 6 = .ok (.aload_n 0, 1)) ∧ (decode cX9_worth 7 = .ok (.getfield 28, 3)) ∧ (decode cX9_worth 10 = .ok (.getfield 122, 3)) ∧ (decode cX9_worth 13 = .ok (.aload_n 0, 1)) := by decide +kernel
theorem dX9_worth_0 : decode cX9_worth 0 = .ok (.aload_n 0, 1) := eX9_worth_0.1
theorem dX9_worth_1 : decode cX9_worth 1 = .ok (.iload_n 1, 1) := eX9_worth_0.2.1
theorem dX9_worth_2 : decode cX9_worth 2 = .ok (.iload_n 2, 1) := eX9_worth_0.2.2.1
theorem dX9_worth_3 : decode cX9_worth 3 = .ok (.invokevirtual 54, 3) := eX9_worth_0.2.2.2.1
theorem dX9_worth_6 : decode cX9_worth 6 = .ok (.aload_n 0, 1) := eX9_worth_0.2.2.2.2.1
theorem dX9_worth_7 : decode cX9_worth 7 = .ok (.getfield 28, 3) := eX9_worth_0.2.2.2.2.2.1
theorem dX9_worth_10 : decode cX9_worth 10 = .ok (.getfield 122, 3) := eX9_worth_0.2.2.2.2.2.2.1
theorem dX9_worth_13 : decode cX9_worth 13 = .ok (.aload_n 0, 1) := eX9_worth_0.2.2.2.2.2.2.2
theorem eX9_worth_8 : (decode cX9_worth 14 = .ok (.getfield 36, 3)) ∧ (decode cX9_worth 17 = .ok (.getfield 135, 3)) ∧ (decode cX9_worth 20 = .ok (.iload_n 1, 1)) ∧ (decode cX9_worth 21 = .ok (.iaload, 1)) ∧ (decode cX9_worth 22 = .ok (.iaload, 1)) ∧ (decode cX9_worth 23 = .ok (.invokestatic 125, 3)) ∧ (decode cX9_worth 26 = .ok (.ireturn, 1)) := by decide +kernel
theorem dX9_worth_14 : decode cX9_worth 14 = .ok (.getfield 36, 3) := eX9_worth_8.1
theorem dX9_worth_17 : decode cX9_worth 17 = .ok (.getfield 135, 3) := eX9_worth_8.2.1
theorem dX9_worth_20 : decode cX9_worth 20 = .ok (.iload_n 1, 1) := eX9_worth_8.2.2.1
theorem dX9_worth_21 : decode cX9_worth 21 = .ok (.iaload, 1) := eX9_worth_8.2.2.2.1
theorem dX9_worth_22 : decode cX9_worth 22 = .ok (.iaload, 1) := eX9_worth_8.2.2.2.2.1
theorem dX9_worth_23 : decode cX9_worth 23 = .ok (.invokestatic 125, 3) := eX9_worth_8.2.2.2.2.2.1
theorem dX9_worth_26 : decode cX9_worth 26 = .ok (.ireturn, 1) := eX9_worth_8.2.2.2.2.2.2
theorem eX9_share_0 : (decode cX9_share 0 = .ok (.aload_n 0, 1)) ∧ (decode cX9_share 1 = .ok (.getfield 32, 3)) ∧ (decode cX9_share 4 = .ok (.getfield 157, 3)) ∧ (decode cX9_share 7 = .ok (.iload_n 1, 1)) ∧ (decode cX9_share 8 = .ok (.iaload, 1)) ∧ (decode cX9_share 9 = .ok (.aload_n 0, 1)) ∧ (decode cX9_share 10 = .ok (.getfield 9, 3)) ∧ (decode cX9_share 13 = .ok (.iload_n 2, 1)) := by decide +kernel
theorem dX9_share_0 : decode cX9_share 0 = .ok (.aload_n 0, 1) := eX9_share_0.1
theorem dX9_share_1 : decode cX9_share 1 = .ok (.getfield 32, 3) := eX9_share_0.2.1
theorem dX9_share_4 : decode cX9_share 4 = .ok (.getfield 157, 3) := eX9_share_0.2.2.1
theorem dX9_share_7 : decode cX9_share 7 = .ok (.iload_n 1, 1) := eX9_share_0.2.2.2.1
theorem dX9_share_8 : decode cX9_share 8 = .ok (.iaload, 1) := eX9_share_0.2.2.2.2.1
theorem dX9_share_9 : decode cX9_share 9 = .ok (.aload_n 0, 1) := eX9_share_0.2.2.2.2.2.1
theorem dX9_share_10 : decode cX9_share 10 = .ok (.getfield 9, 3) := eX9_share_0.2.2.2.2.2.2.1
theorem dX9_share_13 : decode cX9_share 13 = .ok (.iload_n 2, 1) := eX9_share_0.2.2.2.2.2.2.2
theorem eX9_share_8 : (decode cX9_share 14 = .ok (.sipush 1440, 3)) ∧ (decode cX9_share 17 = .ok (.irem, 1)) ∧ (decode cX9_share 18 = .ok (.bipush 60, 2)) ∧ (decode cX9_share 20 = .ok (.idiv, 1)) ∧ (decode cX9_share 21 = .ok (.iaload, 1)) ∧ (decode cX9_share 22 = .ok (.imul, 1)) ∧ (decode cX9_share 23 = .ok (.bipush 100, 2)) ∧ (decode cX9_share 25 = .ok (.idiv, 1)) := by decide +kernel
theorem dX9_share_14 : decode cX9_share 14 = .ok (.sipush 1440, 3) := eX9_share_8.1
theorem dX9_share_17 : decode cX9_share 17 = .ok (.irem, 1) := eX9_share_8.2.1
theorem dX9_share_18 : decode cX9_share 18 = .ok (.bipush 60, 2) := eX9_share_8.2.2.1
theorem dX9_share_20 : decode cX9_share 20 = .ok (.idiv, 1) := eX9_share_8.2.2.2.1
theorem dX9_share_21 : decode cX9_share 21 = .ok (.iaload, 1) := eX9_share_8.2.2.2.2.1
theorem dX9_share_22 : decode cX9_share 22 = .ok (.imul, 1) := eX9_share_8.2.2.2.2.2.1
theorem dX9_share_23 : decode cX9_share 23 = .ok (.bipush 100, 2) := eX9_share_8.2.2.2.2.2.2.1
theorem dX9_share_25 : decode cX9_share 25 = .ok (.idiv, 1) := eX9_share_8.2.2.2.2.2.2.2
theorem eX9_share_16 : (decode cX9_share 26 = .ok (.istore 4, 2)) ∧ (decode cX9_share 28 = .ok (.iload_n 3, 1)) ∧ (decode cX9_share 29 = .ok (.ifCond .le 12, 3)) ∧ (decode cX9_share 32 = .ok (.iload 4, 2)) ∧ (decode cX9_share 34 = .ok (.iconst 1, 1)) ∧ (decode cX9_share 35 = .ok (.iload_n 3, 1)) ∧ (decode cX9_share 36 = .ok (.iadd, 1)) ∧ (decode cX9_share 37 = .ok (.idiv, 1)) := by decide +kernel
theorem dX9_share_26 : decode cX9_share 26 = .ok (.istore 4, 2) := eX9_share_16.1
theorem dX9_share_28 : decode cX9_share 28 = .ok (.iload_n 3, 1) := eX9_share_16.2.1
theorem dX9_share_29 : decode cX9_share 29 = .ok (.ifCond .le 12, 3) := eX9_share_16.2.2.1
theorem dX9_share_32 : decode cX9_share 32 = .ok (.iload 4, 2) := eX9_share_16.2.2.2.1
theorem dX9_share_34 : decode cX9_share 34 = .ok (.iconst 1, 1) := eX9_share_16.2.2.2.2.1
theorem dX9_share_35 : decode cX9_share 35 = .ok (.iload_n 3, 1) := eX9_share_16.2.2.2.2.2.1
theorem dX9_share_36 : decode cX9_share 36 = .ok (.iadd, 1) := eX9_share_16.2.2.2.2.2.2.1
theorem dX9_share_37 : decode cX9_share 37 = .ok (.idiv, 1) := eX9_share_16.2.2.2.2.2.2.2
theorem eX9_share_24 : (decode cX9_share 38 = .ok (.goto 5, 3)) ∧ (decode cX9_share 41 = .ok (.iload 4, 2)) ∧ (decode cX9_share 43 = .ok (.ireturn, 1)) := by decide +kernel
theorem dX9_share_38 : decode cX9_share 38 = .ok (.goto 5, 3) := eX9_share_24.1
theorem dX9_share_41 : decode cX9_share 41 = .ok (.iload 4, 2) := eX9_share_24.2.1
theorem dX9_share_43 : decode cX9_share 43 = .ok (.ireturn, 1) := eX9_share_24.2.2
theorem eX10_init_0 : (decode cX10_init 0 = .ok (.aload_n 0, 1)) ∧ (decode cX10_init 1 = .ok (.invokespecial 1, 3)) ∧ (decode cX10_init 4 = .ok (.aload_n 0, 1)) ∧ (decode cX10_init 5 = .ok (.new 7, 3)) ∧ (decode cX10_init 8 = .ok (.dup, 1)) ∧ (decode cX10_init 9 = .ok (.invokespecial 9, 3)) ∧ (decode cX10_init 12 = .ok (.putfield 10, 3)) ∧ (decode cX10_init 15 = .ok (.aload_n 0, 1)) := by decide +kernel
theorem dX10_init_0 : decode cX10_init 0 = .ok (.aload_n 0, 1) := eX10_init_0.1
theorem dX10_init_1 : decode cX10_init 1 = .ok (.invokespecial 1, 3) := eX10_init_0.2.1
theorem dX10_init_4 : decode cX10_init 4 = .ok (.aload_n 0, 1) := eX10_init_0.2.2.1
theorem dX10_init_5 : decode cX10_init 5 = .ok (.new 7, 3) := eX10_init_0.2.2.2.1
theorem dX10_init_8 : decode cX10_init 8 = .ok (.dup, 1) := eX10_init_0.2.2.2.2.1
theorem dX10_init_9 : decode cX10_init 9 = .ok (.invokespecial 9, 3) := eX10_init_0.2.2.2.2.2.1
theorem dX10_init_12 : decode cX10_init 12 = .ok (.putfield 10, 3) := eX10_init_0.2.2.2.2.2.2.1
theorem dX10_init_15 : decode cX10_init 15 = .ok (.aload_n 0, 1) := eX10_init_0.2.2.2.2.2.2.2
theorem eX10_init_8 : (decode cX10_init 16 = .ok (.new 16, 3)) ∧ (decode cX10_init 19 = .ok (.dup, 1)) ∧ (decode cX10_init 20 = .ok (.invokespecial 18, 3)) ∧ (decode cX10_init 23 = .ok (.putfield 19, 3)) ∧ (decode cX10_init 26 = .ok (.aload_n 0, 1)) ∧ (decode cX10_init 27 = .ok (.new 23, 3)) ∧ (decode cX10_init 30 = .ok (.dup, 1)) ∧ (decode cX10_init 31 = .ok (.invokespecial 25, 3)) := by decide +kernel
theorem dX10_init_16 : decode cX10_init 16 = .ok (.new 16, 3) := eX10_init_8.1
theorem dX10_init_19 : decode cX10_init 19 = .ok (.dup, 1) := eX10_init_8.2.1
theorem dX10_init_20 : decode cX10_init 20 = .ok (.invokespecial 18, 3) := eX10_init_8.2.2.1
theorem dX10_init_23 : decode cX10_init 23 = .ok (.putfield 19, 3) := eX10_init_8.2.2.2.1
theorem dX10_init_26 : decode cX10_init 26 = .ok (.aload_n 0, 1) := eX10_init_8.2.2.2.2.1
theorem dX10_init_27 : decode cX10_init 27 = .ok (.new 23, 3) := eX10_init_8.2.2.2.2.2.1
theorem dX10_init_30 : decode cX10_init 30 = .ok (.dup, 1) := eX10_init_8.2.2.2.2.2.2.1
theorem dX10_init_31 : decode cX10_init 31 = .ok (.invokespecial 25, 3) := eX10_init_8.2.2.2.2.2.2.2
theorem eX10_init_16 : (decode cX10_init 34 = .ok (.putfield 26, 3)) ∧ (decode cX10_init 37 = .ok (.aload_n 0, 1)) ∧ (decode cX10_init 38 = .ok (.new 30, 3)) ∧ (decode cX10_init 41 = .ok (.dup, 1)) ∧ (decode cX10_init 42 = .ok (.aload_n 0, 1)) ∧ (decode cX10_init 43 = .ok (.getfield 10, 3)) ∧ (decode cX10_init 46 = .ok (.aload_n 0, 1)) ∧ (decode cX10_init 47 = .ok (.getfield 19, 3)) := by decide +kernel
theorem dX10_init_34 : decode cX10_init 34 = .ok (.putfield 26, 3) := eX10_init_16.1
theorem dX10_init_37 : decode cX10_init 37 = .ok (.aload_n 0, 1) := eX10_init_16.2.1
theorem dX10_init_38 : decode cX10_init 38 = .ok (.new 30, 3) := eX10_init_16.2.2.1
theorem dX10_init_41 : decode cX10_init 41 = .ok (.dup, 1) := eX10_init_16.2.2.2.1
theorem dX10_init_42 : decode cX10_init 42 = .ok (.aload_n 0, 1) := eX10_init_16.2.2.2.2.1
theorem dX10_init_43 : decode cX10_init 43 = .ok (.getfield 10, 3) := eX10_init_16.2.2.2.2.2.1
theorem dX10_init_46 : decode cX10_init 46 = .ok (.aload_n 0, 1) := eX10_init_16.2.2.2.2.2.2.1
theorem dX10_init_47 : decode cX10_init 47 = .ok (.getfield 19, 3) := eX10_init_16.2.2.2.2.2.2.2
theorem eX10_init_24 : (decode cX10_init 50 = .ok (.aload_n 0, 1)) ∧ (decode cX10_init 51 = .ok (.getfield 26, 3)) ∧ (decode cX10_init 54 = .ok (.invokespecial 32, 3)) ∧ (decode cX10_init 57 = .ok (.putfield 35, 3)) ∧ (decode cX10_init 60 = .ok (.aload_n 0, 1)) ∧ (decode cX10_init 61 = .ok (.new 39, 3)) ∧ (decode cX10_init 64 = .ok (.dup, 1)) ∧ (decode cX10_init 65 = .ok (.aload_n 0, 1)) := by decide +kernel
theorem dX10_init_50 : decode cX10_init 50 = .ok (.aload_n 0, 1) := eX10_init_24.1
theorem dX10_init_51 : decode cX10_init 51 = .ok (.getfield 26, 3) := eX10_init_24.2.1
theorem dX10_init_54 : decode cX10_init 54 = .ok (.invokespecial 32, 3) := eX10_init_24.2.2.1
theorem dX10_init_57 : decode cX10_init 57 = .ok (.putfield 35, 3) := eX10_init_24.2.2.2.1
theorem dX10_init_60 : decode cX10_init 60 = .ok (.aload_n 0, 1) := eX10_init_24.2.2.2.2.1
theorem dX10_init_61 : decode cX10_init 61 = .ok (.new 39, 3) := eX10_init_24.2.2.2.2.2.1
theorem dX10_init_64 : decode cX10_init 64 = .ok (.dup, 1) := eX10_init_24.2.2.2.2.2.2.1
theorem dX10_init_65 : decode cX10_init 65 = .ok (.aload_n 0, 1) := eX10_init_24.2.2.2.2.2.2.2
theorem eX10_init_32 : (decode cX10_init 66 = .ok (.getfield 10, 3)) ∧ (decode cX10_init 69 = .ok (.aload_n 0, 1)) ∧ (decode cX10_init 70 = .ok (.getfield 19, 3)) ∧ (decode cX10_init 73 = .ok (.aload_n 0, 1)) ∧ (decode cX10_init 74 = .ok (.getfield 26, 3)) ∧ (decode cX10_init 77 = .ok (.aload_n 0, 1)) ∧ (decode cX10_init 78 = .ok (.getfield 35, 3)) ∧ (decode cX10_init 81 = .ok (.invokespecial 41, 3)) := by decide +kernel
theorem dX10_init_66 : decode cX10_init 66 = .ok (.getfield 10, 3) := eX10_init_32.1
theorem dX10_init_69 : decode cX10_init 69 = .ok (.aload_n 0, 1) := eX10_init_32.2.1
theorem dX10_init_70 : decode cX10_init 70 = .ok (.getfield 19, 3) := eX10_init_32.2.2.1
theorem dX10_init_73 : decode cX10_init 73 = .ok (.aload_n 0, 1) := eX10_init_32.2.2.2.1
theorem dX10_init_74 : decode cX10_init 74 = .ok (.getfield 26, 3) := eX10_init_32.2.2.2.2.1
theorem dX10_init_77 : decode cX10_init 77 = .ok (.aload_n 0, 1) := eX10_init_32.2.2.2.2.2.1
theorem dX10_init_78 : decode cX10_init 78 = .ok (.getfield 35, 3) := eX10_init_32.2.2.2.2.2.2.1
theorem dX10_init_81 : decode cX10_init 81 = .ok (.invokespecial 41, 3) := eX10_init_32.2.2.2.2.2.2.2
theorem eX10_init_40 : (decode cX10_init 84 = .ok (.putfield 44, 3)) ∧ (decode cX10_init 87 = .ok (.aload_n 0, 1)) ∧ (decode cX10_init 88 = .ok (.new 48, 3)) ∧ (decode cX10_init 91 = .ok (.dup, 1)) ∧ (decode cX10_init 92 = .ok (.aload_n 0, 1)) ∧ (decode cX10_init 93 = .ok (.getfield 10, 3)) ∧ (decode cX10_init 96 = .ok (.aload_n 0, 1)) ∧ (decode cX10_init 97 = .ok (.getfield 19, 3)) := by decide +kernel
theorem dX10_init_84 : decode cX10_init 84 = .ok (.putfield 44, 3) := eX10_init_40.1
theorem dX10_init_87 : decode cX10_init 87 = .ok (.aload_n 0, 1) := eX10_init_40.2.1
theorem dX10_init_88 : decode cX10_init 88 = .ok (.new 48, 3) := eX10_init_40.2.2.1
theorem dX10_init_91 : decode cX10_init 91 = .ok (.dup, 1) := eX10_init_40.2.2.2.1
theorem dX10_init_92 : decode cX10_init 92 = .ok (.aload_n 0, 1) := eX10_init_40.2.2.2.2.1
theorem dX10_init_93 : decode cX10_init 93 = .ok (.getfield 10, 3) := eX10_init_40.2.2.2.2.2.1
theorem dX10_init_96 : decode cX10_init 96 = .ok (.aload_n 0, 1) := eX10_init_40.2.2.2.2.2.2.1
theorem dX10_init_97 : decode cX10_init 97 = .ok (.getfield 19, 3) := eX10_init_40.2.2.2.2.2.2.2
theorem eX10_init_48 : (decode cX10_init 100 = .ok (.aload_n 0, 1)) ∧ (decode cX10_init 101 = .ok (.getfield 26, 3)) ∧ (decode cX10_init 104 = .ok (.invokespecial 50, 3)) ∧ (decode cX10_init 107 = .ok (.putfield 51, 3)) ∧ (decode cX10_init 110 = .ok (.aload_n 0, 1)) ∧ (decode cX10_init 111 = .ok (.new 55, 3)) ∧ (decode cX10_init 114 = .ok (.dup, 1)) ∧ (decode cX10_init 115 = .ok (.invokespecial 57, 3)) := by decide +kernel
theorem dX10_init_100 : decode cX10_init 100 = .ok (.aload_n 0, 1) := eX10_init_48.1
theorem dX10_init_101 : decode cX10_init 101 = .ok (.getfield 26, 3) := eX10_init_48.2.1
theorem dX10_init_104 : decode cX10_init 104 = .ok (.invokespecial 50, 3) := eX10_init_48.2.2.1
theorem dX10_init_107 : decode cX10_init 107 = .ok (.putfield 51, 3) := eX10_init_48.2.2.2.1
theorem dX10_init_110 : decode cX10_init 110 = .ok (.aload_n 0, 1) := eX10_init_48.2.2.2.2.1
theorem dX10_init_111 : decode cX10_init 111 = .ok (.new 55, 3) := eX10_init_48.2.2.2.2.2.1
theorem dX10_init_114 : decode cX10_init 114 = .ok (.dup, 1) := eX10_init_48.2.2.2.2.2.2.1
theorem dX10_init_115 : decode cX10_init 115 = .ok (.invokespecial 57, 3) := eX10_init_48.2.2.2.2.2.2.2
theorem eX10_init_56 : (decode cX10_init 118 = .ok (.putfield 58, 3)) ∧ (decode cX10_init 121 = .ok (.aload_n 0, 1)) ∧ (decode cX10_init 122 = .ok (.new 62, 3)) ∧ (decode cX10_init 125 = .ok (.dup, 1)) ∧ (decode cX10_init 126 = .ok (.invokespecial 64, 3)) ∧ (decode cX10_init 129 = .ok (.putfield 65, 3)) ∧ (decode cX10_init 132 = .ok (.aload_n 0, 1)) ∧ (decode cX10_init 133 = .ok (.new 69, 3)) := by decide +kernel
theorem dX10_init_118 : decode cX10_init 118 = .ok (.putfield 58, 3) := eX10_init_56.1
theorem dX10_init_121 : decode cX10_init 121 = .ok (.aload_n 0, 1) := eX10_init_56.2.1
theorem dX10_init_122 : decode cX10_init 122 = .ok (.new 62, 3) := eX10_init_56.2.2.1
theorem dX10_init_125 : decode cX10_init 125 = .ok (.dup, 1) := eX10_init_56.2.2.2.1
theorem dX10_init_126 : decode cX10_init 126 = .ok (.invokespecial 64, 3) := eX10_init_56.2.2.2.2.1
theorem dX10_init_129 : decode cX10_init 129 = .ok (.putfield 65, 3) := eX10_init_56.2.2.2.2.2.1
theorem dX10_init_132 : decode cX10_init 132 = .ok (.aload_n 0, 1) := eX10_init_56.2.2.2.2.2.2.1
theorem dX10_init_133 : decode cX10_init 133 = .ok (.new 69, 3) := eX10_init_56.2.2.2.2.2.2.2
theorem eX10_init_64 : (decode cX10_init 136 = .ok (.dup, 1)) ∧ (decode cX10_init 137 = .ok (.invokespecial 71, 3)) ∧ (decode cX10_init 140 = .ok (.putfield 72, 3)) ∧ (decode cX10_init 143 = .ok (.aload_n 0, 1)) ∧ (decode cX10_init 144 = .ok (.new 76, 3)) ∧ (decode cX10_init 147 = .ok (.dup, 1)) ∧ (decode cX10_init 148 = .ok (.aload_n 0, 1)) ∧ (decode cX10_init 149 = .ok (.getfield 19, 3)) := by decide +kernel
theorem dX10_init_136 : decode cX10_init 136 = .ok (.dup, 1) := eX10_init_64.1
theorem dX10_init_137 : decode cX10_init 137 = .ok (.invokespecial 71, 3) := eX10_init_64.2.1
theorem dX10_init_140 : decode cX10_init 140 = .ok (.putfield 72, 3) := eX10_init_64.2.2.1
theorem dX10_init_143 : decode cX10_init 143 = .ok (.aload_n 0, 1) := eX10_init_64.2.2.2.1
theorem dX10_init_144 : decode cX10_init 144 = .ok (.new 76, 3) := eX10_init_64.2.2.2.2.1
theorem dX10_init_147 : decode cX10_init 147 = .ok (.dup, 1) := eX10_init_64.2.2.2.2.2.1
theorem dX10_init_148 : decode cX10_init 148 = .ok (.aload_n 0, 1) := eX10_init_64.2.2.2.2.2.2.1
theorem dX10_init_149 : decode cX10_init 149 = .ok (.getfield 19, 3) := eX10_init_64.2.2.2.2.2.2.2
theorem eX10_init_72 : (decode cX10_init 152 = .ok (.aload_n 0, 1)) ∧ (decode cX10_init 153 = .ok (.getfield 58, 3)) ∧ (decode cX10_init 156 = .ok (.aload_n 0, 1)) ∧ (decode cX10_init 157 = .ok (.getfield 65, 3)) ∧ (decode cX10_init 160 = .ok (.invokespecial 78, 3)) ∧ (decode cX10_init 163 = .ok (.putfield 81, 3)) ∧ (decode cX10_init 166 = .ok (.aload_n 0, 1)) ∧ (decode cX10_init 167 = .ok (.iconst 0, 1)) := by decide +kernel
theorem dX10_init_152 : decode cX10_init 152 = .ok (.aload_n 0, 1) := eX10_init_72.1
theorem dX10_init_153 : decode cX10_init 153 = .ok (.getfield 58, 3) := eX10_init_72.2.1
theorem dX10_init_156 : decode cX10_init 156 = .ok (.aload_n 0, 1) := eX10_init_72.2.2.1
theorem dX10_init_157 : decode cX10_init 157 = .ok (.getfield 65, 3) := eX10_init_72.2.2.2.1
theorem dX10_init_160 : decode cX10_init 160 = .ok (.invokespecial 78, 3) := eX10_init_72.2.2.2.2.1
theorem dX10_init_163 : decode cX10_init 163 = .ok (.putfield 81, 3) := eX10_init_72.2.2.2.2.2.1
theorem dX10_init_166 : decode cX10_init 166 = .ok (.aload_n 0, 1) := eX10_init_72.2.2.2.2.2.2.1
theorem dX10_init_167 : decode cX10_init 167 = .ok (.iconst 0, 1) := eX10_init_72.2.2.2.2.2.2.2
theorem eX10_init_80 : (decode cX10_init 168 = .ok (.putfield 85, 3)) ∧ (decode cX10_init 171 = .ok (.return_, 1)) := by decide +kernel
theorem dX10_init_168 : decode cX10_init 168 = .ok (.putfield 85, 3) := eX10_init_80.1
theorem dX10_init_171 : decode cX10_init 171 = .ok (.return_, 1) := eX10_init_80.2
theorem eX10_hall_0 : (decode cX10_hall 0 = .ok (.iload_n 1, 1)) ∧ (decode cX10_hall 1 = .ok (.invokestatic 89, 3)) ∧ (decode cX10_hall 4 = .ok (.ifCond .eq 35, 3)) ∧ (decode cX10_hall 7 = .ok (.iload_n 2, 1)) ∧ (decode cX10_hall 8 = .ok (.iconst 1, 1)) ∧ (decode cX10_hall 9 = .ok (.sipush 2000, 3)) ∧ (decode cX10_hall 12 = .ok (.invokestatic 93, 3)) ∧ (decode cX10_hall 15 = .ok (.ifCond .eq 24, 3)) := by decide +kernel
theorem dX10_hall_0 : decode cX10_hall 0 = .ok (.iload_n 1, 1) := eX10_hall_0.1
theorem dX10_hall_1 : decode cX10_hall 1 = .ok (.invokestatic 89, 3) := eX10_hall_0.2.1
theorem dX10_hall_4 : decode cX10_hall 4 = .ok (.ifCond .eq 35, 3) := eX10_hall_0.2.2.1
theorem dX10_hall_7 : decode cX10_hall 7 = .ok (.iload_n 2, 1) := eX10_hall_0.2.2.2.1
theorem dX10_hall_8 : decode cX10_hall 8 = .ok (.iconst 1, 1) := eX10_hall_0.2.2.2.2.1
theorem dX10_hall_9 : decode cX10_hall 9 = .ok (.sipush 2000, 3) := eX10_hall_0.2.2.2.2.2.1
theorem dX10_hall_12 : decode cX10_hall 12 = .ok (.invokestatic 93, 3) := eX10_hall_0.2.2.2.2.2.2.1
theorem dX10_hall_15 : decode cX10_hall 15 = .ok (.ifCond .eq 24, 3) := eX10_hall_0.2.2.2.2.2.2.2
theorem eX10_hall_8 : (decode cX10_hall 18 = .ok (.iload_n 3, 1)) ∧ (decode cX10_hall 19 = .ok (.iconst 0, 1)) ∧ (decode cX10_hall 20 = .ok (.bipush 120, 2)) ∧ (decode cX10_hall 22 = .ok (.invokestatic 93, 3)) ∧ (decode cX10_hall 25 = .ok (.ifCond .eq 14, 3)) ∧ (decode cX10_hall 28 = .ok (.iload 4, 2)) ∧ (decode cX10_hall 30 = .ok (.iconst 1, 1)) ∧ (decode cX10_hall 31 = .ok (.bipush 15, 2)) := by decide +kernel
theorem dX10_hall_18 : decode cX10_hall 18 = .ok (.iload_n 3, 1) := eX10_hall_8.1
theorem dX10_hall_19 : decode cX10_hall 19 = .ok (.iconst 0, 1) := eX10_hall_8.2.1
theorem dX10_hall_20 : decode cX10_hall 20 = .ok (.bipush 120, 2) := eX10_hall_8.2.2.1
theorem dX10_hall_22 : decode cX10_hall 22 = .ok (.invokestatic 93, 3) := eX10_hall_8.2.2.2.1
theorem dX10_hall_25 : decode cX10_hall 25 = .ok (.ifCond .eq 14, 3) := eX10_hall_8.2.2.2.2.1
theorem dX10_hall_28 : decode cX10_hall 28 = .ok (.iload 4, 2) := eX10_hall_8.2.2.2.2.2.1
theorem dX10_hall_30 : decode cX10_hall 30 = .ok (.iconst 1, 1) := eX10_hall_8.2.2.2.2.2.2.1
theorem dX10_hall_31 : decode cX10_hall 31 = .ok (.bipush 15, 2) := eX10_hall_8.2.2.2.2.2.2.2
theorem eX10_hall_16 : (decode cX10_hall 33 = .ok (.invokestatic 93, 3)) ∧ (decode cX10_hall 36 = .ok (.ifCond .ne 9, 3)) ∧ (decode cX10_hall 39 = .ok (.aload_n 0, 1)) ∧ (decode cX10_hall 40 = .ok (.iconst (-1), 1)) ∧ (decode cX10_hall 41 = .ok (.invokevirtual 97, 3)) ∧ (decode cX10_hall 44 = .ok (.ireturn, 1)) ∧ (decode cX10_hall 45 = .ok (.aload_n 0, 1)) ∧ (decode cX10_hall 46 = .ok (.aload_n 0, 1)) := by decide +kernel
theorem dX10_hall_33 : decode cX10_hall 33 = .ok (.invokestatic 93, 3) := eX10_hall_16.1
theorem dX10_hall_36 : decode cX10_hall 36 = .ok (.ifCond .ne 9, 3) := eX10_hall_16.2.1
theorem dX10_hall_39 : decode cX10_hall 39 = .ok (.aload_n 0, 1) := eX10_hall_16.2.2.1
theorem dX10_hall_40 : decode cX10_hall 40 = .ok (.iconst (-1), 1) := eX10_hall_16.2.2.2.1
theorem dX10_hall_41 : decode cX10_hall 41 = .ok (.invokevirtual 97, 3) := eX10_hall_16.2.2.2.2.1
theorem dX10_hall_44 : decode cX10_hall 44 = .ok (.ireturn, 1) := eX10_hall_16.2.2.2.2.2.1
theorem dX10_hall_45 : decode cX10_hall 45 = .ok (.aload_n 0, 1) := eX10_hall_16.2.2.2.2.2.2.1
theorem dX10_hall_46 : decode cX10_hall 46 = .ok (.aload_n 0, 1) := eX10_hall_16.2.2.2.2.2.2.2
theorem eX10_hall_24 : (decode cX10_hall 47 = .ok (.getfield 10, 3)) ∧ (decode cX10_hall 50 = .ok (.iload_n 1, 1)) ∧ (decode cX10_hall 51 = .ok (.iload_n 2, 1)) ∧ (decode cX10_hall 52 = .ok (.iload_n 3, 1)) ∧ (decode cX10_hall 53 = .ok (.iload 4, 2)) ∧ (decode cX10_hall 55 = .ok (.invokevirtual 101, 3)) ∧ (decode cX10_hall 58 = .ok (.invokevirtual 97, 3)) ∧ (decode cX10_hall 61 = .ok (.ireturn, 1)) := by decide +kernel
theorem dX10_hall_47 : decode cX10_hall 47 = .ok (.getfield 10, 3) := eX10_hall_24.1
theorem dX10_hall_50 : decode cX10_hall 50 = .ok (.iload_n 1, 1) := eX10_hall_24.2.1
theorem dX10_hall_51 : decode cX10_hall 51 = .ok (.iload_n 2, 1) := eX10_hall_24.2.2.1
theorem dX10_hall_52 : decode cX10_hall 52 = .ok (.iload_n 3, 1) := eX10_hall_24.2.2.2.1
theorem dX10_hall_53 : decode cX10_hall 53 = .ok (.iload 4, 2) := eX10_hall_24.2.2.2.2.1
theorem dX10_hall_55 : decode cX10_hall 55 = .ok (.invokevirtual 101, 3) := eX10_hall_24.2.2.2.2.2.1
theorem dX10_hall_58 : decode cX10_hall 58 = .ok (.invokevirtual 97, 3) := eX10_hall_24.2.2.2.2.2.2.1
theorem dX10_hall_61 : decode cX10_hall 61 = .ok (.ireturn, 1) := eX10_hall_24.2.2.2.2.2.2.2
theorem eX10_film_0 : (decode cX10_film 0 = .ok (.iload_n 1, 1)) ∧ (decode cX10_film 1 = .ok (.iconst 1, 1)) ∧ (decode cX10_film 2 = .ok (.sipush 300, 3)) ∧ (decode cX10_film 5 = .ok (.invokestatic 93, 3)) ∧ (decode cX10_film 8 = .ok (.ifCond .eq 23, 3)) ∧ (decode cX10_film 11 = .ok (.iload_n 2, 1)) ∧ (decode cX10_film 12 = .ok (.iconst 0, 1)) ∧ (decode cX10_film 13 = .ok (.iconst 3, 1)) := by decide +kernel
theorem dX10_film_0 : decode cX10_film 0 = .ok (.iload_n 1, 1) := eX10_film_0.1
theorem dX10_film_1 : decode cX10_film 1 = .ok (.iconst 1, 1) := eX10_film_0.2.1
theorem dX10_film_2 : decode cX10_film 2 = .ok (.sipush 300, 3) := eX10_film_0.2.2.1
theorem dX10_film_5 : decode cX10_film 5 = .ok (.invokestatic 93, 3) := eX10_film_0.2.2.2.1
theorem dX10_film_8 : decode cX10_film 8 = .ok (.ifCond .eq 23, 3) := eX10_film_0.2.2.2.2.1
theorem dX10_film_11 : decode cX10_film 11 = .ok (.iload_n 2, 1) := eX10_film_0.2.2.2.2.2.1
theorem dX10_film_12 : decode cX10_film 12 = .ok (.iconst 0, 1) := eX10_film_0.2.2.2.2.2.2.1
theorem dX10_film_13 : decode cX10_film 13 = .ok (.iconst 3, 1) := eX10_film_0.2.2.2.2.2.2.2
theorem eX10_film_8 : (decode cX10_film 14 = .ok (.invokestatic 93, 3)) ∧ (decode cX10_film 17 = .ok (.ifCond .eq 14, 3)) ∧ (decode cX10_film 20 = .ok (.iload_n 3, 1)) ∧ (decode cX10_film 21 = .ok (.iconst 0, 1)) ∧ (decode cX10_film 22 = .ok (.sipush 1000, 3)) ∧ (decode cX10_film 25 = .ok (.invokestatic 93, 3)) ∧ (decode cX10_film 28 = .ok (.ifCond .ne 9, 3)) ∧ (decode cX10_film 31 = .ok (.aload_n 0, 1)) := by decide +kernel
theorem dX10_film_14 : decode cX10_film 14 = .ok (.invokestatic 93, 3) := eX10_film_8.1
theorem dX10_film_17 : decode cX10_film 17 = .ok (.ifCond .eq 14, 3) := eX10_film_8.2.1
theorem dX10_film_20 : decode cX10_film 20 = .ok (.iload_n 3, 1) := eX10_film_8.2.2.1
theorem dX10_film_21 : decode cX10_film 21 = .ok (.iconst 0, 1) := eX10_film_8.2.2.2.1
theorem dX10_film_22 : decode cX10_film 22 = .ok (.sipush 1000, 3) := eX10_film_8.2.2.2.2.1
theorem dX10_film_25 : decode cX10_film 25 = .ok (.invokestatic 93, 3) := eX10_film_8.2.2.2.2.2.1
theorem dX10_film_28 : decode cX10_film 28 = .ok (.ifCond .ne 9, 3) := eX10_film_8.2.2.2.2.2.2.1
theorem dX10_film_31 : decode cX10_film 31 = .ok (.aload_n 0, 1) := eX10_film_8.2.2.2.2.2.2.2
theorem eX10_film_16 : (decode cX10_film 32 = .ok (.iconst (-1), 1)) ∧ (decode cX10_film 33 = .ok (.invokevirtual 97, 3)) ∧ (decode cX10_film 36 = .ok (.ireturn, 1)) ∧ (decode cX10_film 37 = .ok (.aload_n 0, 1)) ∧ (decode cX10_film 38 = .ok (.aload_n 0, 1)) ∧ (decode cX10_film 39 = .ok (.getfield 19, 3)) ∧ (decode cX10_film 42 = .ok (.iload_n 1, 1)) ∧ (decode cX10_film 43 = .ok (.iload_n 2, 1)) := by decide +kernel
theorem dX10_film_32 : decode cX10_film 32 = .ok (.iconst (-1), 1) := eX10_film_16.1
theorem dX10_film_33 : decode cX10_film 33 = .ok (.invokevirtual 97, 3) := eX10_film_16.2.1
theorem dX10_film_36 : decode cX10_film 36 = .ok (.ireturn, 1) := eX10_film_16.2.2.1
theorem dX10_film_37 : decode cX10_film 37 = .ok (.aload_n 0, 1) := eX10_film_16.2.2.2.1
theorem dX10_film_38 : decode cX10_film 38 = .ok (.aload_n 0, 1) := eX10_film_16.2.2.2.2.1
theorem dX10_film_39 : decode cX10_film 39 = .ok (.getfield 19, 3) := eX10_film_16.2.2.2.2.2.1
theorem dX10_film_42 : decode cX10_film 42 = .ok (.iload_n 1, 1) := eX10_film_16.2.2.2.2.2.2.1
theorem dX10_film_43 : decode cX10_film 43 = .ok (.iload_n 2, 1) := eX10_film_16.2.2.2.2.2.2.2
theorem eX10_film_24 : (decode cX10_film 44 = .ok (.iload_n 3, 1)) ∧ (decode cX10_film 45 = .ok (.invokevirtual 105, 3)) ∧ (decode cX10_film 48 = .ok (.invokevirtual 97, 3)) ∧ (decode cX10_film 51 = .ok (.ireturn, 1)) := by decide +kernel
theorem dX10_film_44 : decode cX10_film 44 = .ok (.iload_n 3, 1) := eX10_film_24.1
theorem dX10_film_45 : decode cX10_film 45 = .ok (.invokevirtual 105, 3) := eX10_film_24.2.1
theorem dX10_film_48 : decode cX10_film 48 = .ok (.invokevirtual 97, 3) := eX10_film_24.2.2.1
theorem dX10_film_51 : decode cX10_film 51 = .ok (.ireturn, 1) := eX10_film_24.2.2.2
theorem eX10_way_0 : (decode cX10_way 0 = .ok (.iload_n 1, 1)) ∧ (decode cX10_way 1 = .ok (.invokestatic 89, 3)) ∧ (decode cX10_way 4 = .ok (.ifCond .eq 26, 3)) ∧ (decode cX10_way 7 = .ok (.iload_n 2, 1)) ∧ (decode cX10_way 8 = .ok (.invokestatic 89, 3)) ∧ (decode cX10_way 11 = .ok (.ifCond .eq 19, 3)) ∧ (decode cX10_way 14 = .ok (.iload_n 1, 1)) ∧ (decode cX10_way 15 = .ok (.iload_n 2, 1)) := by decide +kernel
theorem dX10_way_0 : decode cX10_way 0 = .ok (.iload_n 1, 1) := eX10_way_0.1
theorem dX10_way_1 : decode cX10_way 1 = .ok (.invokestatic 89, 3) := eX10_way_0.2.1
theorem dX10_way_4 : decode cX10_way 4 = .ok (.ifCond .eq 26, 3) := eX10_way_0.2.2.1
theorem dX10_way_7 : decode cX10_way 7 = .ok (.iload_n 2, 1) := eX10_way_0.2.2.2.1
theorem dX10_way_8 : decode cX10_way 8 = .ok (.invokestatic 89, 3) := eX10_way_0.2.2.2.2.1
theorem dX10_way_11 : decode cX10_way 11 = .ok (.ifCond .eq 19, 3) := eX10_way_0.2.2.2.2.2.1
theorem dX10_way_14 : decode cX10_way 14 = .ok (.iload_n 1, 1) := eX10_way_0.2.2.2.2.2.2.1
theorem dX10_way_15 : decode cX10_way 15 = .ok (.iload_n 2, 1) := eX10_way_0.2.2.2.2.2.2.2
theorem eX10_way_8 : (decode cX10_way 16 = .ok (.if_icmp .eq 14, 3)) ∧ (decode cX10_way 19 = .ok (.iload_n 3, 1)) ∧ (decode cX10_way 20 = .ok (.iconst 0, 1)) ∧ (decode cX10_way 21 = .ok (.sipush 2000, 3)) ∧ (decode cX10_way 24 = .ok (.invokestatic 93, 3)) ∧ (decode cX10_way 27 = .ok (.ifCond .ne 9, 3)) ∧ (decode cX10_way 30 = .ok (.aload_n 0, 1)) ∧ (decode cX10_way 31 = .ok (.iconst (-1), 1)) := by decide +kernel
theorem dX10_way_16 : decode cX10_way 16 = .ok (.if_icmp .eq 14, 3) := eX10_way_8.1
theorem dX10_way_19 : decode cX10_way 19 = .ok (.iload_n 3, 1) := eX10_way_8.2.1
theorem dX10_way_20 : decode cX10_way 20 = .ok (.iconst 0, 1) := eX10_way_8.2.2.1
theorem dX10_way_21 : decode cX10_way 21 = .ok (.sipush 2000, 3) := eX10_way_8.2.2.2.1
theorem dX10_way_24 : decode cX10_way 24 = .ok (.invokestatic 93, 3) := eX10_way_8.2.2.2.2.1
theorem dX10_way_27 : decode cX10_way 27 = .ok (.ifCond .ne 9, 3) := eX10_way_8.2.2.2.2.2.1
theorem dX10_way_30 : decode cX10_way 30 = .ok (.aload_n 0, 1) := eX10_way_8.2.2.2.2.2.2.1
theorem dX10_way_31 : decode cX10_way 31 = .ok (.iconst (-1), 1) := eX10_way_8.2.2.2.2.2.2.2
theorem eX10_way_16 : (decode cX10_way 32 = .ok (.invokevirtual 97, 3)) ∧ (decode cX10_way 35 = .ok (.ireturn, 1)) ∧ (decode cX10_way 36 = .ok (.aload_n 0, 1)) ∧ (decode cX10_way 37 = .ok (.getfield 10, 3)) ∧ (decode cX10_way 40 = .ok (.iload_n 1, 1)) ∧ (decode cX10_way 41 = .ok (.iload_n 2, 1)) ∧ (decode cX10_way 42 = .ok (.iload_n 3, 1)) ∧ (decode cX10_way 43 = .ok (.invokevirtual 108, 3)) := by decide +kernel
theorem dX10_way_32 : decode cX10_way 32 = .ok (.invokevirtual 97, 3) := eX10_way_16.1
theorem dX10_way_35 : decode cX10_way 35 = .ok (.ireturn, 1) := eX10_way_16.2.1
theorem dX10_way_36 : decode cX10_way 36 = .ok (.aload_n 0, 1) := eX10_way_16.2.2.1
theorem dX10_way_37 : decode cX10_way 37 = .ok (.getfield 10, 3) := eX10_way_16.2.2.2.1
theorem dX10_way_40 : decode cX10_way 40 = .ok (.iload_n 1, 1) := eX10_way_16.2.2.2.2.1
theorem dX10_way_41 : decode cX10_way 41 = .ok (.iload_n 2, 1) := eX10_way_16.2.2.2.2.2.1
theorem dX10_way_42 : decode cX10_way 42 = .ok (.iload_n 3, 1) := eX10_way_16.2.2.2.2.2.2.1
theorem dX10_way_43 : decode cX10_way 43 = .ok (.invokevirtual 108, 3) := eX10_way_16.2.2.2.2.2.2.2
theorem eX10_way_24 : (decode cX10_way 46 = .ok (.aload_n 0, 1)) ∧ (decode cX10_way 47 = .ok (.iconst 0, 1)) ∧ (decode cX10_way 48 = .ok (.invokevirtual 97, 3)) ∧ (decode cX10_way 51 = .ok (.ireturn, 1)) := by decide +kernel
theorem dX10_way_46 : decode cX10_way 46 = .ok (.aload_n 0, 1) := eX10_way_24.1
theorem dX10_way_47 : decode cX10_way 47 = .ok (.iconst 0, 1) := eX10_way_24.2.1
theorem dX10_way_48 : decode cX10_way 48 = .ok (.invokevirtual 97, 3) := eX10_way_24.2.2.1
theorem dX10_way_51 : decode cX10_way 51 = .ok (.ireturn, 1) := eX10_way_24.2.2.2
theorem eX10_guest_0 : (decode cX10_guest 0 = .ok (.iload_n 2, 1)) ∧ (decode cX10_guest 1 = .ok (.iconst (-1), 1)) ∧ (decode cX10_guest 2 = .ok (.if_icmp .ne 12, 3)) ∧ (decode cX10_guest 5 = .ok (.iload_n 3, 1)) ∧ (decode cX10_guest 6 = .ok (.iconst (-1), 1)) ∧ (decode cX10_guest 7 = .ok (.if_icmp .ne 7, 3)) ∧ (decode cX10_guest 10 = .ok (.iconst 1, 1)) ∧ (decode cX10_guest 11 = .ok (.goto 4, 3)) := by decide +kernel
theorem dX10_guest_0 : decode cX10_guest 0 = .ok (.iload_n 2, 1) := eX10_guest_0.1
theorem dX10_guest_1 : decode cX10_guest 1 = .ok (.iconst (-1), 1) := eX10_guest_0.2.1
theorem dX10_guest_2 : decode cX10_guest 2 = .ok (.if_icmp .ne 12, 3) := eX10_guest_0.2.2.1
theorem dX10_guest_5 : decode cX10_guest 5 = .ok (.iload_n 3, 1) := eX10_guest_0.2.2.2.1
theorem dX10_guest_6 : decode cX10_guest 6 = .ok (.iconst (-1), 1) := eX10_guest_0.2.2.2.2.1
theorem dX10_guest_7 : decode cX10_guest 7 = .ok (.if_icmp .ne 7, 3) := eX10_guest_0.2.2.2.2.2.1
theorem dX10_guest_10 : decode cX10_guest 10 = .ok (.iconst 1, 1) := eX10_guest_0.2.2.2.2.2.2.1
theorem dX10_guest_11 : decode cX10_guest 11 = .ok (.goto 4, 3) := eX10_guest_0.2.2.2.2.2.2.2
theorem eX10_guest_8 : (decode cX10_guest 14 = .ok (.iconst 0, 1)) ∧ (decode cX10_guest 15 = .ok (.istore 4, 2)) ∧ (decode cX10_guest 17 = .ok (.iload 4, 2)) ∧ (decode cX10_guest 19 = .ok (.ifCond .ne 28, 3)) ∧ (decode cX10_guest 22 = .ok (.iload_n 2, 1)) ∧ (decode cX10_guest 23 = .ok (.invokestatic 112, 3)) ∧ (decode cX10_guest 26 = .ok (.ifCond .eq 15, 3)) ∧ (decode cX10_guest 29 = .ok (.iload_n 3, 1)) := by decide +kernel
theorem dX10_guest_14 : decode cX10_guest 14 = .ok (.iconst 0, 1) := eX10_guest_8.1
theorem dX10_guest_15 : decode cX10_guest 15 = .ok (.istore 4, 2) := eX10_guest_8.2.1
theorem dX10_guest_17 : decode cX10_guest 17 = .ok (.iload 4, 2) := eX10_guest_8.2.2.1
theorem dX10_guest_19 : decode cX10_guest 19 = .ok (.ifCond .ne 28, 3) := eX10_guest_8.2.2.2.1
theorem dX10_guest_22 : decode cX10_guest 22 = .ok (.iload_n 2, 1) := eX10_guest_8.2.2.2.2.1
theorem dX10_guest_23 : decode cX10_guest 23 = .ok (.invokestatic 112, 3) := eX10_guest_8.2.2.2.2.2.1
theorem dX10_guest_26 : decode cX10_guest 26 = .ok (.ifCond .eq 15, 3) := eX10_guest_8.2.2.2.2.2.2.1
theorem dX10_guest_29 : decode cX10_guest 29 = .ok (.iload_n 3, 1) := eX10_guest_8.2.2.2.2.2.2.2
theorem eX10_guest_16 : (decode cX10_guest 30 = .ok (.invokestatic 112, 3)) ∧ (decode cX10_guest 33 = .ok (.ifCond .eq 8, 3)) ∧ (decode cX10_guest 36 = .ok (.iload_n 2, 1)) ∧ (decode cX10_guest 37 = .ok (.iload_n 3, 1)) ∧ (decode cX10_guest 38 = .ok (.if_icmp .le 9, 3)) ∧ (decode cX10_guest 41 = .ok (.aload_n 0, 1)) ∧ (decode cX10_guest 42 = .ok (.iconst (-1), 1)) ∧ (decode cX10_guest 43 = .ok (.invokevirtual 97, 3)) := by decide +kernel
theorem dX10_guest_30 : decode cX10_guest 30 = .ok (.invokestatic 112, 3) := eX10_guest_16.1
theorem dX10_guest_33 : decode cX10_guest 33 = .ok (.ifCond .eq 8, 3) := eX10_guest_16.2.1
theorem dX10_guest_36 : decode cX10_guest 36 = .ok (.iload_n 2, 1) := eX10_guest_16.2.2.1
theorem dX10_guest_37 : decode cX10_guest 37 = .ok (.iload_n 3, 1) := eX10_guest_16.2.2.2.1
theorem dX10_guest_38 : decode cX10_guest 38 = .ok (.if_icmp .le 9, 3) := eX10_guest_16.2.2.2.2.1
theorem dX10_guest_41 : decode cX10_guest 41 = .ok (.aload_n 0, 1) := eX10_guest_16.2.2.2.2.2.1
theorem dX10_guest_42 : decode cX10_guest 42 = .ok (.iconst (-1), 1) := eX10_guest_16.2.2.2.2.2.2.1
theorem dX10_guest_43 : decode cX10_guest 43 = .ok (.invokevirtual 97, 3) := eX10_guest_16.2.2.2.2.2.2.2
theorem eX10_guest_24 : (decode cX10_guest 46 = .ok (.ireturn, 1)) ∧ (decode cX10_guest 47 = .ok (.aload_n 0, 1)) ∧ (decode cX10_guest 48 = .ok (.getfield 19, 3)) ∧ (decode cX10_guest 51 = .ok (.iload_n 1, 1)) ∧ (decode cX10_guest 52 = .ok (.invokevirtual 115, 3)) ∧ (decode cX10_guest 55 = .ok (.ifCond .ne 10, 3)) ∧ (decode cX10_guest 58 = .ok (.aload_n 0, 1)) ∧ (decode cX10_guest 59 = .ok (.bipush (-2), 2)) := by decide +kernel
theorem dX10_guest_46 : decode cX10_guest 46 = .ok (.ireturn, 1) := eX10_guest_24.1
theorem dX10_guest_47 : decode cX10_guest 47 = .ok (.aload_n 0, 1) := eX10_guest_24.2.1
theorem dX10_guest_48 : decode cX10_guest 48 = .ok (.getfield 19, 3) := eX10_guest_24.2.2.1
theorem dX10_guest_51 : decode cX10_guest 51 = .ok (.iload_n 1, 1) := eX10_guest_24.2.2.2.1
theorem dX10_guest_52 : decode cX10_guest 52 = .ok (.invokevirtual 115, 3) := eX10_guest_24.2.2.2.2.1
theorem dX10_guest_55 : decode cX10_guest 55 = .ok (.ifCond .ne 10, 3) := eX10_guest_24.2.2.2.2.2.1
theorem dX10_guest_58 : decode cX10_guest 58 = .ok (.aload_n 0, 1) := eX10_guest_24.2.2.2.2.2.2.1
theorem dX10_guest_59 : decode cX10_guest 59 = .ok (.bipush (-2), 2) := eX10_guest_24.2.2.2.2.2.2.2
theorem eX10_guest_32 : (decode cX10_guest 61 = .ok (.invokevirtual 97, 3)) ∧ (decode cX10_guest 64 = .ok (.ireturn, 1)) ∧ (decode cX10_guest 65 = .ok (.aload_n 0, 1)) ∧ (decode cX10_guest 66 = .ok (.getfield 19, 3)) ∧ (decode cX10_guest 69 = .ok (.iload_n 1, 1)) ∧ (decode cX10_guest 70 = .ok (.iload_n 2, 1)) ∧ (decode cX10_guest 71 = .ok (.iload_n 3, 1)) ∧ (decode cX10_guest 72 = .ok (.invokevirtual 118, 3)) := by decide +kernel
theorem dX10_guest_61 : decode cX10_guest 61 = .ok (.invokevirtual 97, 3) := eX10_guest_32.1
theorem dX10_guest_64 : decode cX10_guest 64 = .ok (.ireturn, 1) := eX10_guest_32.2.1
theorem dX10_guest_65 : decode cX10_guest 65 = .ok (.aload_n 0, 1) := eX10_guest_32.2.2.1
theorem dX10_guest_66 : decode cX10_guest 66 = .ok (.getfield 19, 3) := eX10_guest_32.2.2.2.1
theorem dX10_guest_69 : decode cX10_guest 69 = .ok (.iload_n 1, 1) := eX10_guest_32.2.2.2.2.1
theorem dX10_guest_70 : decode cX10_guest 70 = .ok (.iload_n 2, 1) := eX10_guest_32.2.2.2.2.2.1
theorem dX10_guest_71 : decode cX10_guest 71 = .ok (.iload_n 3, 1) := eX10_guest_32.2.2.2.2.2.2.1
theorem dX10_guest_72 : decode cX10_guest 72 = .ok (.invokevirtual 118, 3) := eX10_guest_32.2.2.2.2.2.2.2
theorem eX10_guest_40 : (decode cX10_guest 75 = .ok (.aload_n 0, 1)) ∧ (decode cX10_guest 76 = .ok (.iconst 0, 1)) ∧ (decode cX10_guest 77 = .ok (.invokevirtual 97, 3)) ∧ (decode cX10_guest 80 = .ok (.ireturn, 1)) := by decide +kernel
theorem dX10_guest_75 : decode cX10_guest 75 = .ok (.aload_n 0, 1) := eX10_guest_40.1
theorem dX10_guest_76 : decode cX10_guest 76 = .ok (.iconst 0, 1) := eX10_guest_40.2.1
theorem dX10_guest_77 : decode cX10_guest 77 = .ok (.invokevirtual 97, 3) := eX10_guest_40.2.2.1
theorem dX10_guest_80 : decode cX10_guest 80 = .ok (.ireturn, 1) := eX10_guest_40.2.2.2
theorem eX10_bar_0 : (decode cX10_bar 0 = .ok (.iload 4, 2)) ∧ (decode cX10_bar 2 = .ok (.iconst (-1), 1)) ∧ (decode cX10_bar 3 = .ok (.if_icmp .eq 13, 3)) ∧ (decode cX10_bar 6 = .ok (.iload 4, 2)) ∧ (decode cX10_bar 8 = .ok (.iload_n 1, 1)) ∧ (decode cX10_bar 9 = .ok (.if_icmp .ne 7, 3)) ∧ (decode cX10_bar 12 = .ok (.iconst 1, 1)) ∧ (decode cX10_bar 13 = .ok (.goto 4, 3)) := by decide +kernel
theorem dX10_bar_0 : decode cX10_bar 0 = .ok (.iload 4, 2) := eX10_bar_0.1
theorem dX10_bar_2 : decode cX10_bar 2 = .ok (.iconst (-1), 1) := eX10_bar_0.2.1
theorem dX10_bar_3 : decode cX10_bar 3 = .ok (.if_icmp .eq 13, 3) := eX10_bar_0.2.2.1
theorem dX10_bar_6 : decode cX10_bar 6 = .ok (.iload 4, 2) := eX10_bar_0.2.2.2.1
theorem dX10_bar_8 : decode cX10_bar 8 = .ok (.iload_n 1, 1) := eX10_bar_0.2.2.2.2.1
theorem dX10_bar_9 : decode cX10_bar 9 = .ok (.if_icmp .ne 7, 3) := eX10_bar_0.2.2.2.2.2.1
theorem dX10_bar_12 : decode cX10_bar 12 = .ok (.iconst 1, 1) := eX10_bar_0.2.2.2.2.2.2.1
theorem dX10_bar_13 : decode cX10_bar 13 = .ok (.goto 4, 3) := eX10_bar_0.2.2.2.2.2.2.2
theorem eX10_bar_8 : (decode cX10_bar 16 = .ok (.iconst 0, 1)) ∧ (decode cX10_bar 17 = .ok (.istore 5, 2)) ∧ (decode cX10_bar 19 = .ok (.iload_n 2, 1)) ∧ (decode cX10_bar 20 = .ok (.invokestatic 112, 3)) ∧ (decode cX10_bar 23 = .ok (.ifCond .eq 18, 3)) ∧ (decode cX10_bar 26 = .ok (.iload_n 3, 1)) ∧ (decode cX10_bar 27 = .ok (.iconst 0, 1)) ∧ (decode cX10_bar 28 = .ok (.bipush 60, 2)) := by decide +kernel
theorem dX10_bar_16 : decode cX10_bar 16 = .ok (.iconst 0, 1) := eX10_bar_8.1
theorem dX10_bar_17 : decode cX10_bar 17 = .ok (.istore 5, 2) := eX10_bar_8.2.1
theorem dX10_bar_19 : decode cX10_bar 19 = .ok (.iload_n 2, 1) := eX10_bar_8.2.2.1
theorem dX10_bar_20 : decode cX10_bar 20 = .ok (.invokestatic 112, 3) := eX10_bar_8.2.2.2.1
theorem dX10_bar_23 : decode cX10_bar 23 = .ok (.ifCond .eq 18, 3) := eX10_bar_8.2.2.2.2.1
theorem dX10_bar_26 : decode cX10_bar 26 = .ok (.iload_n 3, 1) := eX10_bar_8.2.2.2.2.2.1
theorem dX10_bar_27 : decode cX10_bar 27 = .ok (.iconst 0, 1) := eX10_bar_8.2.2.2.2.2.2.1
theorem dX10_bar_28 : decode cX10_bar 28 = .ok (.bipush 60, 2) := eX10_bar_8.2.2.2.2.2.2.2
theorem eX10_bar_16 : (decode cX10_bar 30 = .ok (.invokestatic 93, 3)) ∧ (decode cX10_bar 33 = .ok (.ifCond .eq 8, 3)) ∧ (decode cX10_bar 36 = .ok (.iload 5, 2)) ∧ (decode cX10_bar 38 = .ok (.ifCond .eq 9, 3)) ∧ (decode cX10_bar 41 = .ok (.aload_n 0, 1)) ∧ (decode cX10_bar 42 = .ok (.iconst (-1), 1)) ∧ (decode cX10_bar 43 = .ok (.invokevirtual 97, 3)) ∧ (decode cX10_bar 46 = .ok (.ireturn, 1)) := by decide +kernel
theorem dX10_bar_30 : decode cX10_bar 30 = .ok (.invokestatic 93, 3) := eX10_bar_16.1
theorem dX10_bar_33 : decode cX10_bar 33 = .ok (.ifCond .eq 8, 3) := eX10_bar_16.2.1
theorem dX10_bar_36 : decode cX10_bar 36 = .ok (.iload 5, 2) := eX10_bar_16.2.2.1
theorem dX10_bar_38 : decode cX10_bar 38 = .ok (.ifCond .eq 9, 3) := eX10_bar_16.2.2.2.1
theorem dX10_bar_41 : decode cX10_bar 41 = .ok (.aload_n 0, 1) := eX10_bar_16.2.2.2.2.1
theorem dX10_bar_42 : decode cX10_bar 42 = .ok (.iconst (-1), 1) := eX10_bar_16.2.2.2.2.2.1
theorem dX10_bar_43 : decode cX10_bar 43 = .ok (.invokevirtual 97, 3) := eX10_bar_16.2.2.2.2.2.2.1
theorem dX10_bar_46 : decode cX10_bar 46 = .ok (.ireturn, 1) := eX10_bar_16.2.2.2.2.2.2.2
theorem eX10_bar_24 : (decode cX10_bar 47 = .ok (.aload_n 0, 1)) ∧ (decode cX10_bar 48 = .ok (.getfield 19, 3)) ∧ (decode cX10_bar 51 = .ok (.iload_n 1, 1)) ∧ (decode cX10_bar 52 = .ok (.invokevirtual 115, 3)) ∧ (decode cX10_bar 55 = .ok (.ifCond .eq 21, 3)) ∧ (decode cX10_bar 58 = .ok (.iload 4, 2)) ∧ (decode cX10_bar 60 = .ok (.iconst (-1), 1)) ∧ (decode cX10_bar 61 = .ok (.if_icmp .eq 22, 3)) := by decide +kernel
theorem dX10_bar_47 : decode cX10_bar 47 = .ok (.aload_n 0, 1) := eX10_bar_24.1
theorem dX10_bar_48 : decode cX10_bar 48 = .ok (.getfield 19, 3) := eX10_bar_24.2.1
theorem dX10_bar_51 : decode cX10_bar 51 = .ok (.iload_n 1, 1) := eX10_bar_24.2.2.1
theorem dX10_bar_52 : decode cX10_bar 52 = .ok (.invokevirtual 115, 3) := eX10_bar_24.2.2.2.1
theorem dX10_bar_55 : decode cX10_bar 55 = .ok (.ifCond .eq 21, 3) := eX10_bar_24.2.2.2.2.1
theorem dX10_bar_58 : decode cX10_bar 58 = .ok (.iload 4, 2) := eX10_bar_24.2.2.2.2.2.1
theorem dX10_bar_60 : decode cX10_bar 60 = .ok (.iconst (-1), 1) := eX10_bar_24.2.2.2.2.2.2.1
theorem dX10_bar_61 : decode cX10_bar 61 = .ok (.if_icmp .eq 22, 3) := eX10_bar_24.2.2.2.2.2.2.2
theorem eX10_bar_32 : (decode cX10_bar 64 = .ok (.aload_n 0, 1)) ∧ (decode cX10_bar 65 = .ok (.getfield 19, 3)) ∧ (decode cX10_bar 68 = .ok (.iload 4, 2)) ∧ (decode cX10_bar 70 = .ok (.invokevirtual 115, 3)) ∧ (decode cX10_bar 73 = .ok (.ifCond .ne 10, 3)) ∧ (decode cX10_bar 76 = .ok (.aload_n 0, 1)) ∧ (decode cX10_bar 77 = .ok (.bipush (-2), 2)) ∧ (decode cX10_bar 79 = .ok (.invokevirtual 97, 3)) := by decide +kernel
theorem dX10_bar_64 : decode cX10_bar 64 = .ok (.aload_n 0, 1) := eX10_bar_32.1
theorem dX10_bar_65 : decode cX10_bar 65 = .ok (.getfield 19, 3) := eX10_bar_32.2.1
theorem dX10_bar_68 : decode cX10_bar 68 = .ok (.iload 4, 2) := eX10_bar_32.2.2.1
theorem dX10_bar_70 : decode cX10_bar 70 = .ok (.invokevirtual 115, 3) := eX10_bar_32.2.2.2.1
theorem dX10_bar_73 : decode cX10_bar 73 = .ok (.ifCond .ne 10, 3) := eX10_bar_32.2.2.2.2.1
theorem dX10_bar_76 : decode cX10_bar 76 = .ok (.aload_n 0, 1) := eX10_bar_32.2.2.2.2.2.1
theorem dX10_bar_77 : decode cX10_bar 77 = .ok (.bipush (-2), 2) := eX10_bar_32.2.2.2.2.2.2.1
theorem dX10_bar_79 : decode cX10_bar 79 = .ok (.invokevirtual 97, 3) := eX10_bar_32.2.2.2.2.2.2.2
theorem eX10_bar_40 : (decode cX10_bar 82 = .ok (.ireturn, 1)) ∧ (decode cX10_bar 83 = .ok (.aload_n 0, 1)) ∧ (decode cX10_bar 84 = .ok (.getfield 19, 3)) ∧ (decode cX10_bar 87 = .ok (.iload_n 1, 1)) ∧ (decode cX10_bar 88 = .ok (.iload_n 2, 1)) ∧ (decode cX10_bar 89 = .ok (.iload_n 3, 1)) ∧ (decode cX10_bar 90 = .ok (.iload 4, 2)) ∧ (decode cX10_bar 92 = .ok (.invokevirtual 121, 3)) := by decide +kernel
theorem dX10_bar_82 : decode cX10_bar 82 = .ok (.ireturn, 1) := eX10_bar_40.1
theorem dX10_bar_83 : decode cX10_bar 83 = .ok (.aload_n 0, 1) := eX10_bar_40.2.1
theorem dX10_bar_84 : decode cX10_bar 84 = .ok (.getfield 19, 3) := eX10_bar_40.2.2.1
theorem dX10_bar_87 : decode cX10_bar 87 = .ok (.iload_n 1, 1) := eX10_bar_40.2.2.2.1
theorem dX10_bar_88 : decode cX10_bar 88 = .ok (.iload_n 2, 1) := eX10_bar_40.2.2.2.2.1
theorem dX10_bar_89 : decode cX10_bar 89 = .ok (.iload_n 3, 1) := eX10_bar_40.2.2.2.2.2.1
theorem dX10_bar_90 : decode cX10_bar 90 = .ok (.iload 4, 2) := eX10_bar_40.2.2.2.2.2.2.1
theorem dX10_bar_92 : decode cX10_bar 92 = .ok (.invokevirtual 121, 3) := eX10_bar_40.2.2.2.2.2.2.2
theorem eX10_bar_48 : (decode cX10_bar 95 = .ok (.aload_n 0, 1)) ∧ (decode cX10_bar 96 = .ok (.iconst 0, 1)) ∧ (decode cX10_bar 97 = .ok (.invokevirtual 97, 3)) ∧ (decode cX10_bar 100 = .ok (.ireturn, 1)) := by decide +kernel
theorem dX10_bar_95 : decode cX10_bar 95 = .ok (.aload_n 0, 1) := eX10_bar_48.1
theorem dX10_bar_96 : decode cX10_bar 96 = .ok (.iconst 0, 1) := eX10_bar_48.2.1
theorem dX10_bar_97 : decode cX10_bar 97 = .ok (.invokevirtual 97, 3) := eX10_bar_48.2.2.1
theorem dX10_bar_100 : decode cX10_bar 100 = .ok (.ireturn, 1) := eX10_bar_48.2.2.2
theorem eX10_why_0 : (decode cX10_why 0 = .ok (.aload_n 0, 1)) ∧ (decode cX10_why 1 = .ok (.iload_n 1, 1)) ∧ (decode cX10_why 2 = .ok (.iload_n 2, 1)) ∧ (decode cX10_why 3 = .ok (.iload_n 3, 1)) ∧ (decode cX10_why 4 = .ok (.iload 4, 2)) ∧ (decode cX10_why 6 = .ok (.invokevirtual 125, 3)) ∧ (decode cX10_why 9 = .ok (.ireturn, 1)) := by decide +kernel
theorem dX10_why_0 : decode cX10_why 0 = .ok (.aload_n 0, 1) := eX10_why_0.1
theorem dX10_why_1 : decode cX10_why 1 = .ok (.iload_n 1, 1) := eX10_why_0.2.1
theorem dX10_why_2 : decode cX10_why 2 = .ok (.iload_n 2, 1) := eX10_why_0.2.2.1
theorem dX10_why_3 : decode cX10_why 3 = .ok (.iload_n 3, 1) := eX10_why_0.2.2.2.1
theorem dX10_why_4 : decode cX10_why 4 = .ok (.iload 4, 2) := eX10_why_0.2.2.2.2.1
theorem dX10_why_6 : decode cX10_why 6 = .ok (.invokevirtual 125, 3) := eX10_why_0.2.2.2.2.2.1
theorem dX10_why_9 : decode cX10_why 9 = .ok (.ireturn, 1) := eX10_why_0.2.2.2.2.2.2
theorem eX10_put_0 : (decode cX10_put 0 = .ok (.aload_n 0, 1)) ∧ (decode cX10_put 1 = .ok (.iload_n 1, 1)) ∧ (decode cX10_put 2 = .ok (.iload_n 2, 1)) ∧ (decode cX10_put 3 = .ok (.iload_n 3, 1)) ∧ (decode cX10_put 4 = .ok (.iload 4, 2)) ∧ (decode cX10_put 6 = .ok (.invokevirtual 125, 3)) ∧ (decode cX10_put 9 = .ok (.istore 5, 2)) ∧ (decode cX10_put 11 = .ok (.iload 5, 2)) := by decide +kernel
theorem dX10_put_0 : decode cX10_put 0 = .ok (.aload_n 0, 1) := eX10_put_0.1
theorem dX10_put_1 : decode cX10_put 1 = .ok (.iload_n 1, 1) := eX10_put_0.2.1
theorem dX10_put_2 : decode cX10_put 2 = .ok (.iload_n 2, 1) := eX10_put_0.2.2.1
theorem dX10_put_3 : decode cX10_put 3 = .ok (.iload_n 3, 1) := eX10_put_0.2.2.2.1
theorem dX10_put_4 : decode cX10_put 4 = .ok (.iload 4, 2) := eX10_put_0.2.2.2.2.1
theorem dX10_put_6 : decode cX10_put 6 = .ok (.invokevirtual 125, 3) := eX10_put_0.2.2.2.2.2.1
theorem dX10_put_9 : decode cX10_put 9 = .ok (.istore 5, 2) := eX10_put_0.2.2.2.2.2.2.1
theorem dX10_put_11 : decode cX10_put 11 = .ok (.iload 5, 2) := eX10_put_0.2.2.2.2.2.2.2
theorem eX10_put_8 : (decode cX10_put 13 = .ok (.ifCond .ge 10, 3)) ∧ (decode cX10_put 16 = .ok (.aload_n 0, 1)) ∧ (decode cX10_put 17 = .ok (.iload 5, 2)) ∧ (decode cX10_put 19 = .ok (.invokevirtual 97, 3)) ∧ (decode cX10_put 22 = .ok (.ireturn, 1)) ∧ (decode cX10_put 23 = .ok (.iload 5, 2)) ∧ (decode cX10_put 25 = .ok (.ifCond .le 10, 3)) ∧ (decode cX10_put 28 = .ok (.aload_n 0, 1)) := by decide +kernel
theorem dX10_put_13 : decode cX10_put 13 = .ok (.ifCond .ge 10, 3) := eX10_put_8.1
theorem dX10_put_16 : decode cX10_put 16 = .ok (.aload_n 0, 1) := eX10_put_8.2.1
theorem dX10_put_17 : decode cX10_put 17 = .ok (.iload 5, 2) := eX10_put_8.2.2.1
theorem dX10_put_19 : decode cX10_put 19 = .ok (.invokevirtual 97, 3) := eX10_put_8.2.2.2.1
theorem dX10_put_22 : decode cX10_put 22 = .ok (.ireturn, 1) := eX10_put_8.2.2.2.2.1
theorem dX10_put_23 : decode cX10_put 23 = .ok (.iload 5, 2) := eX10_put_8.2.2.2.2.2.1
theorem dX10_put_25 : decode cX10_put 25 = .ok (.ifCond .le 10, 3) := eX10_put_8.2.2.2.2.2.2.1
theorem dX10_put_28 : decode cX10_put 28 = .ok (.aload_n 0, 1) := eX10_put_8.2.2.2.2.2.2.2
theorem eX10_put_16 : (decode cX10_put 29 = .ok (.bipush (-3), 2)) ∧ (decode cX10_put 31 = .ok (.invokevirtual 97, 3)) ∧ (decode cX10_put 34 = .ok (.ireturn, 1)) ∧ (decode cX10_put 35 = .ok (.aload_n 0, 1)) ∧ (decode cX10_put 36 = .ok (.aload_n 0, 1)) ∧ (decode cX10_put 37 = .ok (.getfield 26, 3)) ∧ (decode cX10_put 40 = .ok (.iload_n 1, 1)) ∧ (decode cX10_put 41 = .ok (.iload_n 2, 1)) := by decide +kernel
theorem dX10_put_29 : decode cX10_put 29 = .ok (.bipush (-3), 2) := eX10_put_16.1
theorem dX10_put_31 : decode cX10_put 31 = .ok (.invokevirtual 97, 3) := eX10_put_16.2.1
theorem dX10_put_34 : decode cX10_put 34 = .ok (.ireturn, 1) := eX10_put_16.2.2.1
theorem dX10_put_35 : decode cX10_put 35 = .ok (.aload_n 0, 1) := eX10_put_16.2.2.2.1
theorem dX10_put_36 : decode cX10_put 36 = .ok (.aload_n 0, 1) := eX10_put_16.2.2.2.2.1
theorem dX10_put_37 : decode cX10_put 37 = .ok (.getfield 26, 3) := eX10_put_16.2.2.2.2.2.1
theorem dX10_put_40 : decode cX10_put 40 = .ok (.iload_n 1, 1) := eX10_put_16.2.2.2.2.2.2.1
theorem dX10_put_41 : decode cX10_put 41 = .ok (.iload_n 2, 1) := eX10_put_16.2.2.2.2.2.2.2
theorem eX10_put_24 : (decode cX10_put 42 = .ok (.iload_n 3, 1)) ∧ (decode cX10_put 43 = .ok (.iload_n 3, 1)) ∧ (decode cX10_put 44 = .ok (.aload_n 0, 1)) ∧ (decode cX10_put 45 = .ok (.getfield 19, 3)) ∧ (decode cX10_put 48 = .ok (.getfield 128, 3)) ∧ (decode cX10_put 51 = .ok (.iload_n 1, 1)) ∧ (decode cX10_put 52 = .ok (.iaload, 1)) ∧ (decode cX10_put 53 = .ok (.iadd, 1)) := by decide +kernel
theorem dX10_put_42 : decode cX10_put 42 = .ok (.iload_n 3, 1) := eX10_put_24.1
theorem dX10_put_43 : decode cX10_put 43 = .ok (.iload_n 3, 1) := eX10_put_24.2.1
theorem dX10_put_44 : decode cX10_put 44 = .ok (.aload_n 0, 1) := eX10_put_24.2.2.1
theorem dX10_put_45 : decode cX10_put 45 = .ok (.getfield 19, 3) := eX10_put_24.2.2.2.1
theorem dX10_put_48 : decode cX10_put 48 = .ok (.getfield 128, 3) := eX10_put_24.2.2.2.2.1
theorem dX10_put_51 : decode cX10_put 51 = .ok (.iload_n 1, 1) := eX10_put_24.2.2.2.2.2.1
theorem dX10_put_52 : decode cX10_put 52 = .ok (.iaload, 1) := eX10_put_24.2.2.2.2.2.2.1
theorem dX10_put_53 : decode cX10_put 53 = .ok (.iadd, 1) := eX10_put_24.2.2.2.2.2.2.2
theorem eX10_put_32 : (decode cX10_put 54 = .ok (.iload 4, 2)) ∧ (decode cX10_put 56 = .ok (.invokevirtual 132, 3)) ∧ (decode cX10_put 59 = .ok (.invokevirtual 97, 3)) ∧ (decode cX10_put 62 = .ok (.ireturn, 1)) := by decide +kernel
theorem dX10_put_54 : decode cX10_put 54 = .ok (.iload 4, 2) := eX10_put_32.1
theorem dX10_put_56 : decode cX10_put 56 = .ok (.invokevirtual 132, 3) := eX10_put_32.2.1
theorem dX10_put_59 : decode cX10_put 59 = .ok (.invokevirtual 97, 3) := eX10_put_32.2.2.1
theorem dX10_put_62 : decode cX10_put 62 = .ok (.ireturn, 1) := eX10_put_32.2.2.2
theorem eX10_take_0 : (decode cX10_take 0 = .ok (.aload_n 0, 1)) ∧ (decode cX10_take 1 = .ok (.getfield 26, 3)) ∧ (decode cX10_take 4 = .ok (.iload_n 1, 1)) ∧ (decode cX10_take 5 = .ok (.invokevirtual 135, 3)) ∧ (decode cX10_take 8 = .ok (.ifCond .ne 10, 3)) ∧ (decode cX10_take 11 = .ok (.aload_n 0, 1)) ∧ (decode cX10_take 12 = .ok (.bipush (-2), 2)) ∧ (decode cX10_take 14 = .ok (.invokevirtual 97, 3)) := by decide +kernel
theorem dX10_take_0 : decode cX10_take 0 = .ok (.aload_n 0, 1) := eX10_take_0.1
theorem dX10_take_1 : decode cX10_take 1 = .ok (.getfield 26, 3) := eX10_take_0.2.1
theorem dX10_take_4 : decode cX10_take 4 = .ok (.iload_n 1, 1) := eX10_take_0.2.2.1
theorem dX10_take_5 : decode cX10_take 5 = .ok (.invokevirtual 135, 3) := eX10_take_0.2.2.2.1
theorem dX10_take_8 : decode cX10_take 8 = .ok (.ifCond .ne 10, 3) := eX10_take_0.2.2.2.2.1
theorem dX10_take_11 : decode cX10_take 11 = .ok (.aload_n 0, 1) := eX10_take_0.2.2.2.2.2.1
theorem dX10_take_12 : decode cX10_take 12 = .ok (.bipush (-2), 2) := eX10_take_0.2.2.2.2.2.2.1
theorem dX10_take_14 : decode cX10_take 14 = .ok (.invokevirtual 97, 3) := eX10_take_0.2.2.2.2.2.2.2
theorem eX10_take_8 : (decode cX10_take 17 = .ok (.ireturn, 1)) ∧ (decode cX10_take 18 = .ok (.aload_n 0, 1)) ∧ (decode cX10_take 19 = .ok (.getfield 26, 3)) ∧ (decode cX10_take 22 = .ok (.getfield 136, 3)) ∧ (decode cX10_take 25 = .ok (.iload_n 1, 1)) ∧ (decode cX10_take 26 = .ok (.iconst 0, 1)) ∧ (decode cX10_take 27 = .ok (.bastore, 1)) ∧ (decode cX10_take 28 = .ok (.aload_n 0, 1)) := by decide +kernel
theorem dX10_take_17 : decode cX10_take 17 = .ok (.ireturn, 1) := eX10_take_8.1
theorem dX10_take_18 : decode cX10_take 18 = .ok (.aload_n 0, 1) := eX10_take_8.2.1
theorem dX10_take_19 : decode cX10_take 19 = .ok (.getfield 26, 3) := eX10_take_8.2.2.1
theorem dX10_take_22 : decode cX10_take 22 = .ok (.getfield 136, 3) := eX10_take_8.2.2.2.1
theorem dX10_take_25 : decode cX10_take 25 = .ok (.iload_n 1, 1) := eX10_take_8.2.2.2.2.1
theorem dX10_take_26 : decode cX10_take 26 = .ok (.iconst 0, 1) := eX10_take_8.2.2.2.2.2.1
theorem dX10_take_27 : decode cX10_take 27 = .ok (.bastore, 1) := eX10_take_8.2.2.2.2.2.2.1
theorem dX10_take_28 : decode cX10_take 28 = .ok (.aload_n 0, 1) := eX10_take_8.2.2.2.2.2.2.2
theorem eX10_take_16 : (decode cX10_take 29 = .ok (.iconst 0, 1)) ∧ (decode cX10_take 30 = .ok (.invokevirtual 97, 3)) ∧ (decode cX10_take 33 = .ok (.ireturn, 1)) := by decide +kernel
theorem dX10_take_29 : decode cX10_take 29 = .ok (.iconst 0, 1) := eX10_take_16.1
theorem dX10_take_30 : decode cX10_take 30 = .ok (.invokevirtual 97, 3) := eX10_take_16.2.1
theorem dX10_take_33 : decode cX10_take 33 = .ok (.ireturn, 1) := eX10_take_16.2.2
theorem eX10_of_0 : (decode cX10_of 0 = .ok (.aload_n 0, 1)) ∧ (decode cX10_of 1 = .ok (.getfield 26, 3)) ∧ (decode cX10_of 4 = .ok (.iload_n 1, 1)) ∧ (decode cX10_of 5 = .ok (.invokevirtual 135, 3)) ∧ (decode cX10_of 8 = .ok (.ifCond .ne 5, 3)) ∧ (decode cX10_of 11 = .ok (.iconst (-1), 1)) ∧ (decode cX10_of 12 = .ok (.ireturn, 1)) ∧ (decode cX10_of 13 = .ok (.iload_n 2, 1)) := by decide +kernel
theorem dX10_of_0 : decode cX10_of 0 = .ok (.aload_n 0, 1) := eX10_of_0.1
theorem dX10_of_1 : decode cX10_of 1 = .ok (.getfield 26, 3) := eX10_of_0.2.1
theorem dX10_of_4 : decode cX10_of 4 = .ok (.iload_n 1, 1) := eX10_of_0.2.2.1
theorem dX10_of_5 : decode cX10_of 5 = .ok (.invokevirtual 135, 3) := eX10_of_0.2.2.2.1
theorem dX10_of_8 : decode cX10_of 8 = .ok (.ifCond .ne 5, 3) := eX10_of_0.2.2.2.2.1
theorem dX10_of_11 : decode cX10_of 11 = .ok (.iconst (-1), 1) := eX10_of_0.2.2.2.2.2.1
theorem dX10_of_12 : decode cX10_of 12 = .ok (.ireturn, 1) := eX10_of_0.2.2.2.2.2.2.1
theorem dX10_of_13 : decode cX10_of 13 = .ok (.iload_n 2, 1) := eX10_of_0.2.2.2.2.2.2.2
theorem eX10_of_8 : (decode cX10_of 14 = .ok (.tableswitch 152 0 8 #[50, 60, 70, 80, 90, 100, 109, 118, 135], 50)) ∧ (decode cX10_of 64 = .ok (.aload_n 0, 1)) ∧ (decode cX10_of 65 = .ok (.getfield 26, 3)) ∧ (decode cX10_of 68 = .ok (.getfield 140, 3)) ∧ (decode cX10_of 71 = .ok (.iload_n 1, 1)) ∧ (decode cX10_of 72 = .ok (.iaload, 1)) ∧ (decode cX10_of 73 = .ok (.ireturn, 1)) ∧ (decode cX10_of 74 = .ok (.aload_n 0, 1)) := by decide +kernel
theorem dX10_of_14 : decode cX10_of 14 = .ok (.tableswitch 152 0 8 #[50, 60, 70, 80, 90, 100, 109, 118, 135], 50) := eX10_of_8.1
theorem dX10_of_64 : decode cX10_of 64 = .ok (.aload_n 0, 1) := eX10_of_8.2.1
theorem dX10_of_65 : decode cX10_of 65 = .ok (.getfield 26, 3) := eX10_of_8.2.2.1
theorem dX10_of_68 : decode cX10_of 68 = .ok (.getfield 140, 3) := eX10_of_8.2.2.2.1
theorem dX10_of_71 : decode cX10_of 71 = .ok (.iload_n 1, 1) := eX10_of_8.2.2.2.2.1
theorem dX10_of_72 : decode cX10_of 72 = .ok (.iaload, 1) := eX10_of_8.2.2.2.2.2.1
theorem dX10_of_73 : decode cX10_of 73 = .ok (.ireturn, 1) := eX10_of_8.2.2.2.2.2.2.1
theorem dX10_of_74 : decode cX10_of 74 = .ok (.aload_n 0, 1) := eX10_of_8.2.2.2.2.2.2.2
theorem eX10_of_16 : (decode cX10_of 75 = .ok (.getfield 26, 3)) ∧ (decode cX10_of 78 = .ok (.getfield 143, 3)) ∧ (decode cX10_of 81 = .ok (.iload_n 1, 1)) ∧ (decode cX10_of 82 = .ok (.iaload, 1)) ∧ (decode cX10_of 83 = .ok (.ireturn, 1)) ∧ (decode cX10_of 84 = .ok (.aload_n 0, 1)) ∧ (decode cX10_of 85 = .ok (.getfield 26, 3)) ∧ (decode cX10_of 88 = .ok (.getfield 146, 3)) := by decide +kernel
theorem dX10_of_75 : decode cX10_of 75 = .ok (.getfield 26, 3) := eX10_of_16.1
theorem dX10_of_78 : decode cX10_of 78 = .ok (.getfield 143, 3) := eX10_of_16.2.1
theorem dX10_of_81 : decode cX10_of 81 = .ok (.iload_n 1, 1) := eX10_of_16.2.2.1
theorem dX10_of_82 : decode cX10_of 82 = .ok (.iaload, 1) := eX10_of_16.2.2.2.1
theorem dX10_of_83 : decode cX10_of 83 = .ok (.ireturn, 1) := eX10_of_16.2.2.2.2.1
theorem dX10_of_84 : decode cX10_of 84 = .ok (.aload_n 0, 1) := eX10_of_16.2.2.2.2.2.1
theorem dX10_of_85 : decode cX10_of 85 = .ok (.getfield 26, 3) := eX10_of_16.2.2.2.2.2.2.1
theorem dX10_of_88 : decode cX10_of 88 = .ok (.getfield 146, 3) := eX10_of_16.2.2.2.2.2.2.2
theorem eX10_of_24 : (decode cX10_of 91 = .ok (.iload_n 1, 1)) ∧ (decode cX10_of 92 = .ok (.iaload, 1)) ∧ (decode cX10_of 93 = .ok (.ireturn, 1)) ∧ (decode cX10_of 94 = .ok (.aload_n 0, 1)) ∧ (decode cX10_of 95 = .ok (.getfield 26, 3)) ∧ (decode cX10_of 98 = .ok (.getfield 149, 3)) ∧ (decode cX10_of 101 = .ok (.iload_n 1, 1)) ∧ (decode cX10_of 102 = .ok (.iaload, 1)) := by decide +kernel
theorem dX10_of_91 : decode cX10_of 91 = .ok (.iload_n 1, 1) := eX10_of_24.1
theorem dX10_of_92 : decode cX10_of 92 = .ok (.iaload, 1) := eX10_of_24.2.1
theorem dX10_of_93 : decode cX10_of 93 = .ok (.ireturn, 1) := eX10_of_24.2.2.1
theorem dX10_of_94 : decode cX10_of 94 = .ok (.aload_n 0, 1) := eX10_of_24.2.2.2.1
theorem dX10_of_95 : decode cX10_of 95 = .ok (.getfield 26, 3) := eX10_of_24.2.2.2.2.1
theorem dX10_of_98 : decode cX10_of 98 = .ok (.getfield 149, 3) := eX10_of_24.2.2.2.2.2.1
theorem dX10_of_101 : decode cX10_of 101 = .ok (.iload_n 1, 1) := eX10_of_24.2.2.2.2.2.2.1
theorem dX10_of_102 : decode cX10_of 102 = .ok (.iaload, 1) := eX10_of_24.2.2.2.2.2.2.2
theorem eX10_of_32 : (decode cX10_of 103 = .ok (.ireturn, 1)) ∧ (decode cX10_of 104 = .ok (.aload_n 0, 1)) ∧ (decode cX10_of 105 = .ok (.getfield 26, 3)) ∧ (decode cX10_of 108 = .ok (.getfield 152, 3)) ∧ (decode cX10_of 111 = .ok (.iload_n 1, 1)) ∧ (decode cX10_of 112 = .ok (.iaload, 1)) ∧ (decode cX10_of 113 = .ok (.ireturn, 1)) ∧ (decode cX10_of 114 = .ok (.aload_n 0, 1)) := by decide +kernel
theorem dX10_of_103 : decode cX10_of 103 = .ok (.ireturn, 1) := eX10_of_32.1
theorem dX10_of_104 : decode cX10_of 104 = .ok (.aload_n 0, 1) := eX10_of_32.2.1
theorem dX10_of_105 : decode cX10_of 105 = .ok (.getfield 26, 3) := eX10_of_32.2.2.1
theorem dX10_of_108 : decode cX10_of 108 = .ok (.getfield 152, 3) := eX10_of_32.2.2.2.1
theorem dX10_of_111 : decode cX10_of 111 = .ok (.iload_n 1, 1) := eX10_of_32.2.2.2.2.1
theorem dX10_of_112 : decode cX10_of 112 = .ok (.iaload, 1) := eX10_of_32.2.2.2.2.2.1
theorem dX10_of_113 : decode cX10_of 113 = .ok (.ireturn, 1) := eX10_of_32.2.2.2.2.2.2.1
theorem dX10_of_114 : decode cX10_of 114 = .ok (.aload_n 0, 1) := eX10_of_32.2.2.2.2.2.2.2
theorem eX10_of_40 : (decode cX10_of 115 = .ok (.getfield 44, 3)) ∧ (decode cX10_of 118 = .ok (.iload_n 1, 1)) ∧ (decode cX10_of 119 = .ok (.invokevirtual 155, 3)) ∧ (decode cX10_of 122 = .ok (.ireturn, 1)) ∧ (decode cX10_of 123 = .ok (.aload_n 0, 1)) ∧ (decode cX10_of 124 = .ok (.getfield 44, 3)) ∧ (decode cX10_of 127 = .ok (.iload_n 1, 1)) ∧ (decode cX10_of 128 = .ok (.invokevirtual 158, 3)) := by decide +kernel
theorem dX10_of_115 : decode cX10_of 115 = .ok (.getfield 44, 3) := eX10_of_40.1
theorem dX10_of_118 : decode cX10_of 118 = .ok (.iload_n 1, 1) := eX10_of_40.2.1
theorem dX10_of_119 : decode cX10_of 119 = .ok (.invokevirtual 155, 3) := eX10_of_40.2.2.1
theorem dX10_of_122 : decode cX10_of 122 = .ok (.ireturn, 1) := eX10_of_40.2.2.2.1
theorem dX10_of_123 : decode cX10_of 123 = .ok (.aload_n 0, 1) := eX10_of_40.2.2.2.2.1
theorem dX10_of_124 : decode cX10_of 124 = .ok (.getfield 44, 3) := eX10_of_40.2.2.2.2.2.1
theorem dX10_of_127 : decode cX10_of 127 = .ok (.iload_n 1, 1) := eX10_of_40.2.2.2.2.2.2.1
theorem dX10_of_128 : decode cX10_of 128 = .ok (.invokevirtual 158, 3) := eX10_of_40.2.2.2.2.2.2.2
theorem eX10_of_48 : (decode cX10_of 131 = .ok (.ireturn, 1)) ∧ (decode cX10_of 132 = .ok (.aload_n 0, 1)) ∧ (decode cX10_of 133 = .ok (.getfield 51, 3)) ∧ (decode cX10_of 136 = .ok (.invokevirtual 161, 3)) ∧ (decode cX10_of 139 = .ok (.aload_n 0, 1)) ∧ (decode cX10_of 140 = .ok (.getfield 51, 3)) ∧ (decode cX10_of 143 = .ok (.getfield 164, 3)) ∧ (decode cX10_of 146 = .ok (.iload_n 1, 1)) := by decide +kernel
theorem dX10_of_131 : decode cX10_of 131 = .ok (.ireturn, 1) := eX10_of_48.1
theorem dX10_of_132 : decode cX10_of 132 = .ok (.aload_n 0, 1) := eX10_of_48.2.1
theorem dX10_of_133 : decode cX10_of 133 = .ok (.getfield 51, 3) := eX10_of_48.2.2.1
theorem dX10_of_136 : decode cX10_of 136 = .ok (.invokevirtual 161, 3) := eX10_of_48.2.2.2.1
theorem dX10_of_139 : decode cX10_of 139 = .ok (.aload_n 0, 1) := eX10_of_48.2.2.2.2.1
theorem dX10_of_140 : decode cX10_of 140 = .ok (.getfield 51, 3) := eX10_of_48.2.2.2.2.2.1
theorem dX10_of_143 : decode cX10_of 143 = .ok (.getfield 164, 3) := eX10_of_48.2.2.2.2.2.2.1
theorem dX10_of_146 : decode cX10_of 146 = .ok (.iload_n 1, 1) := eX10_of_48.2.2.2.2.2.2.2
theorem eX10_of_56 : (decode cX10_of 147 = .ok (.iaload, 1)) ∧ (decode cX10_of 148 = .ok (.ireturn, 1)) ∧ (decode cX10_of 149 = .ok (.aload_n 0, 1)) ∧ (decode cX10_of 150 = .ok (.getfield 51, 3)) ∧ (decode cX10_of 153 = .ok (.invokevirtual 161, 3)) ∧ (decode cX10_of 156 = .ok (.aload_n 0, 1)) ∧ (decode cX10_of 157 = .ok (.getfield 51, 3)) ∧ (decode cX10_of 160 = .ok (.getfield 167, 3)) := by decide +kernel
theorem dX10_of_147 : decode cX10_of 147 = .ok (.iaload, 1) := eX10_of_56.1
theorem dX10_of_148 : decode cX10_of 148 = .ok (.ireturn, 1) := eX10_of_56.2.1
theorem dX10_of_149 : decode cX10_of 149 = .ok (.aload_n 0, 1) := eX10_of_56.2.2.1
theorem dX10_of_150 : decode cX10_of 150 = .ok (.getfield 51, 3) := eX10_of_56.2.2.2.1
theorem dX10_of_153 : decode cX10_of 153 = .ok (.invokevirtual 161, 3) := eX10_of_56.2.2.2.2.1
theorem dX10_of_156 : decode cX10_of 156 = .ok (.aload_n 0, 1) := eX10_of_56.2.2.2.2.2.1
theorem dX10_of_157 : decode cX10_of 157 = .ok (.getfield 51, 3) := eX10_of_56.2.2.2.2.2.2.1
theorem dX10_of_160 : decode cX10_of 160 = .ok (.getfield 167, 3) := eX10_of_56.2.2.2.2.2.2.2
theorem eX10_of_64 : (decode cX10_of 163 = .ok (.iload_n 1, 1)) ∧ (decode cX10_of 164 = .ok (.iaload, 1)) ∧ (decode cX10_of 165 = .ok (.ireturn, 1)) ∧ (decode cX10_of 166 = .ok (.iconst (-1), 1)) ∧ (decode cX10_of 167 = .ok (.ireturn, 1)) := by decide +kernel
theorem dX10_of_163 : decode cX10_of 163 = .ok (.iload_n 1, 1) := eX10_of_64.1
theorem dX10_of_164 : decode cX10_of 164 = .ok (.iaload, 1) := eX10_of_64.2.1
theorem dX10_of_165 : decode cX10_of 165 = .ok (.ireturn, 1) := eX10_of_64.2.2.1
theorem dX10_of_166 : decode cX10_of 166 = .ok (.iconst (-1), 1) := eX10_of_64.2.2.2.1
theorem dX10_of_167 : decode cX10_of 167 = .ok (.ireturn, 1) := eX10_of_64.2.2.2.2
theorem eX10_part_0 : (decode cX10_part 0 = .ok (.iload_n 1, 1)) ∧ (decode cX10_part 1 = .ok (.iconst 0, 1)) ∧ (decode cX10_part 2 = .ok (.bipush 23, 2)) ∧ (decode cX10_part 4 = .ok (.invokestatic 93, 3)) ∧ (decode cX10_part 7 = .ok (.ifCond .eq 14, 3)) ∧ (decode cX10_part 10 = .ok (.iload_n 2, 1)) ∧ (decode cX10_part 11 = .ok (.iconst 0, 1)) ∧ (decode cX10_part 12 = .ok (.sipush 300, 3)) := by decide +kernel
theorem dX10_part_0 : decode cX10_part 0 = .ok (.iload_n 1, 1) := eX10_part_0.1
theorem dX10_part_1 : decode cX10_part 1 = .ok (.iconst 0, 1) := eX10_part_0.2.1
theorem dX10_part_2 : decode cX10_part 2 = .ok (.bipush 23, 2) := eX10_part_0.2.2.1
theorem dX10_part_4 : decode cX10_part 4 = .ok (.invokestatic 93, 3) := eX10_part_0.2.2.2.1
theorem dX10_part_7 : decode cX10_part 7 = .ok (.ifCond .eq 14, 3) := eX10_part_0.2.2.2.2.1
theorem dX10_part_10 : decode cX10_part 10 = .ok (.iload_n 2, 1) := eX10_part_0.2.2.2.2.2.1
theorem dX10_part_11 : decode cX10_part 11 = .ok (.iconst 0, 1) := eX10_part_0.2.2.2.2.2.2.1
theorem dX10_part_12 : decode cX10_part 12 = .ok (.sipush 300, 3) := eX10_part_0.2.2.2.2.2.2.2
theorem eX10_part_8 : (decode cX10_part 15 = .ok (.invokestatic 93, 3)) ∧ (decode cX10_part 18 = .ok (.ifCond .ne 9, 3)) ∧ (decode cX10_part 21 = .ok (.aload_n 0, 1)) ∧ (decode cX10_part 22 = .ok (.iconst (-1), 1)) ∧ (decode cX10_part 23 = .ok (.invokevirtual 97, 3)) ∧ (decode cX10_part 26 = .ok (.ireturn, 1)) ∧ (decode cX10_part 27 = .ok (.aload_n 0, 1)) ∧ (decode cX10_part 28 = .ok (.getfield 44, 3)) := by decide +kernel
theorem dX10_part_15 : decode cX10_part 15 = .ok (.invokestatic 93, 3) := eX10_part_8.1
theorem dX10_part_18 : decode cX10_part 18 = .ok (.ifCond .ne 9, 3) := eX10_part_8.2.1
theorem dX10_part_21 : decode cX10_part 21 = .ok (.aload_n 0, 1) := eX10_part_8.2.2.1
theorem dX10_part_22 : decode cX10_part 22 = .ok (.iconst (-1), 1) := eX10_part_8.2.2.2.1
theorem dX10_part_23 : decode cX10_part 23 = .ok (.invokevirtual 97, 3) := eX10_part_8.2.2.2.2.1
theorem dX10_part_26 : decode cX10_part 26 = .ok (.ireturn, 1) := eX10_part_8.2.2.2.2.2.1
theorem dX10_part_27 : decode cX10_part 27 = .ok (.aload_n 0, 1) := eX10_part_8.2.2.2.2.2.2.1
theorem dX10_part_28 : decode cX10_part 28 = .ok (.getfield 44, 3) := eX10_part_8.2.2.2.2.2.2.2
theorem eX10_part_16 : (decode cX10_part 31 = .ok (.getfield 170, 3)) ∧ (decode cX10_part 34 = .ok (.iload_n 1, 1)) ∧ (decode cX10_part 35 = .ok (.iload_n 2, 1)) ∧ (decode cX10_part 36 = .ok (.iastore, 1)) ∧ (decode cX10_part 37 = .ok (.aload_n 0, 1)) ∧ (decode cX10_part 38 = .ok (.iconst 0, 1)) ∧ (decode cX10_part 39 = .ok (.invokevirtual 97, 3)) ∧ (decode cX10_part 42 = .ok (.ireturn, 1)) := by decide +kernel
theorem dX10_part_31 : decode cX10_part 31 = .ok (.getfield 170, 3) := eX10_part_16.1
theorem dX10_part_34 : decode cX10_part 34 = .ok (.iload_n 1, 1) := eX10_part_16.2.1
theorem dX10_part_35 : decode cX10_part 35 = .ok (.iload_n 2, 1) := eX10_part_16.2.2.1
theorem dX10_part_36 : decode cX10_part 36 = .ok (.iastore, 1) := eX10_part_16.2.2.2.1
theorem dX10_part_37 : decode cX10_part 37 = .ok (.aload_n 0, 1) := eX10_part_16.2.2.2.2.1
theorem dX10_part_38 : decode cX10_part 38 = .ok (.iconst 0, 1) := eX10_part_16.2.2.2.2.2.1
theorem dX10_part_39 : decode cX10_part 39 = .ok (.invokevirtual 97, 3) := eX10_part_16.2.2.2.2.2.2.1
theorem dX10_part_42 : decode cX10_part 42 = .ok (.ireturn, 1) := eX10_part_16.2.2.2.2.2.2.2
theorem eX10_grid_0 : (decode cX10_grid 0 = .ok (.aload_n 0, 1)) ∧ (decode cX10_grid 1 = .ok (.getfield 44, 3)) ∧ (decode cX10_grid 4 = .ok (.invokevirtual 173, 3)) ∧ (decode cX10_grid 7 = .ok (.ireturn, 1)) := by decide +kernel
theorem dX10_grid_0 : decode cX10_grid 0 = .ok (.aload_n 0, 1) := eX10_grid_0.1
theorem dX10_grid_1 : decode cX10_grid 1 = .ok (.getfield 44, 3) := eX10_grid_0.2.1
theorem dX10_grid_4 : decode cX10_grid 4 = .ok (.invokevirtual 173, 3) := eX10_grid_0.2.2.1
theorem dX10_grid_7 : decode cX10_grid 7 = .ok (.ireturn, 1) := eX10_grid_0.2.2.2
theorem eX10_hour_0 : (decode cX10_hour 0 = .ok (.iload_n 1, 1)) ∧ (decode cX10_hour 1 = .ok (.invokestatic 112, 3)) ∧ (decode cX10_hour 4 = .ok (.ifCond .ne 9, 3)) ∧ (decode cX10_hour 7 = .ok (.aload_n 0, 1)) ∧ (decode cX10_hour 8 = .ok (.iconst (-1), 1)) ∧ (decode cX10_hour 9 = .ok (.invokevirtual 97, 3)) ∧ (decode cX10_hour 12 = .ok (.ireturn, 1)) ∧ (decode cX10_hour 13 = .ok (.aload_n 0, 1)) := by decide +kernel
theorem dX10_hour_0 : decode cX10_hour 0 = .ok (.iload_n 1, 1) := eX10_hour_0.1
theorem dX10_hour_1 : decode cX10_hour 1 = .ok (.invokestatic 112, 3) := eX10_hour_0.2.1
theorem dX10_hour_4 : decode cX10_hour 4 = .ok (.ifCond .ne 9, 3) := eX10_hour_0.2.2.1
theorem dX10_hour_7 : decode cX10_hour 7 = .ok (.aload_n 0, 1) := eX10_hour_0.2.2.2.1
theorem dX10_hour_8 : decode cX10_hour 8 = .ok (.iconst (-1), 1) := eX10_hour_0.2.2.2.2.1
theorem dX10_hour_9 : decode cX10_hour 9 = .ok (.invokevirtual 97, 3) := eX10_hour_0.2.2.2.2.2.1
theorem dX10_hour_12 : decode cX10_hour 12 = .ok (.ireturn, 1) := eX10_hour_0.2.2.2.2.2.2.1
theorem dX10_hour_13 : decode cX10_hour 13 = .ok (.aload_n 0, 1) := eX10_hour_0.2.2.2.2.2.2.2
theorem eX10_hour_8 : (decode cX10_hour 14 = .ok (.aload_n 0, 1)) ∧ (decode cX10_hour 15 = .ok (.getfield 44, 3)) ∧ (decode cX10_hour 18 = .ok (.iload_n 1, 1)) ∧ (decode cX10_hour 19 = .ok (.invokevirtual 177, 3)) ∧ (decode cX10_hour 22 = .ok (.invokevirtual 97, 3)) ∧ (decode cX10_hour 25 = .ok (.ireturn, 1)) := by decide +kernel
theorem dX10_hour_14 : decode cX10_hour 14 = .ok (.aload_n 0, 1) := eX10_hour_8.1
theorem dX10_hour_15 : decode cX10_hour 15 = .ok (.getfield 44, 3) := eX10_hour_8.2.1
theorem dX10_hour_18 : decode cX10_hour 18 = .ok (.iload_n 1, 1) := eX10_hour_8.2.2.1
theorem dX10_hour_19 : decode cX10_hour 19 = .ok (.invokevirtual 177, 3) := eX10_hour_8.2.2.2.1
theorem dX10_hour_22 : decode cX10_hour 22 = .ok (.invokevirtual 97, 3) := eX10_hour_8.2.2.2.2.1
theorem dX10_hour_25 : decode cX10_hour 25 = .ok (.ireturn, 1) := eX10_hour_8.2.2.2.2.2
theorem eX10_better_0 : (decode cX10_better 0 = .ok (.aload_n 0, 1)) ∧ (decode cX10_better 1 = .ok (.getfield 44, 3)) ∧ (decode cX10_better 4 = .ok (.invokevirtual 180, 3)) ∧ (decode cX10_better 7 = .ok (.ireturn, 1)) := by decide +kernel
theorem dX10_better_0 : decode cX10_better 0 = .ok (.aload_n 0, 1) := eX10_better_0.1
theorem dX10_better_1 : decode cX10_better 1 = .ok (.getfield 44, 3) := eX10_better_0.2.1
theorem dX10_better_4 : decode cX10_better 4 = .ok (.invokevirtual 180, 3) := eX10_better_0.2.2.1
theorem dX10_better_7 : decode cX10_better 7 = .ok (.ireturn, 1) := eX10_better_0.2.2.2
theorem eX10_come_0 : (decode cX10_come 0 = .ok (.iload_n 2, 1)) ∧ (decode cX10_come 1 = .ok (.bipush (-40), 2)) ∧ (decode cX10_come 3 = .ok (.bipush 10, 2)) ∧ (decode cX10_come 5 = .ok (.invokestatic 93, 3)) ∧ (decode cX10_come 8 = .ok (.ifCond .eq 14, 3)) ∧ (decode cX10_come 11 = .ok (.iload_n 3, 1)) ∧ (decode cX10_come 12 = .ok (.iconst 0, 1)) ∧ (decode cX10_come 13 = .ok (.sipush 1000, 3)) := by decide +kernel
theorem dX10_come_0 : decode cX10_come 0 = .ok (.iload_n 2, 1) := eX10_come_0.1
theorem dX10_come_1 : decode cX10_come 1 = .ok (.bipush (-40), 2) := eX10_come_0.2.1
theorem dX10_come_3 : decode cX10_come 3 = .ok (.bipush 10, 2) := eX10_come_0.2.2.1
theorem dX10_come_5 : decode cX10_come 5 = .ok (.invokestatic 93, 3) := eX10_come_0.2.2.2.1
theorem dX10_come_8 : decode cX10_come 8 = .ok (.ifCond .eq 14, 3) := eX10_come_0.2.2.2.2.1
theorem dX10_come_11 : decode cX10_come 11 = .ok (.iload_n 3, 1) := eX10_come_0.2.2.2.2.2.1
theorem dX10_come_12 : decode cX10_come 12 = .ok (.iconst 0, 1) := eX10_come_0.2.2.2.2.2.2.1
theorem dX10_come_13 : decode cX10_come 13 = .ok (.sipush 1000, 3) := eX10_come_0.2.2.2.2.2.2.2
theorem eX10_come_8 : (decode cX10_come 16 = .ok (.invokestatic 93, 3)) ∧ (decode cX10_come 19 = .ok (.ifCond .ne 9, 3)) ∧ (decode cX10_come 22 = .ok (.aload_n 0, 1)) ∧ (decode cX10_come 23 = .ok (.iconst (-1), 1)) ∧ (decode cX10_come 24 = .ok (.invokevirtual 97, 3)) ∧ (decode cX10_come 27 = .ok (.ireturn, 1)) ∧ (decode cX10_come 28 = .ok (.aload_n 0, 1)) ∧ (decode cX10_come 29 = .ok (.getfield 26, 3)) := by decide +kernel
theorem dX10_come_16 : decode cX10_come 16 = .ok (.invokestatic 93, 3) := eX10_come_8.1
theorem dX10_come_19 : decode cX10_come 19 = .ok (.ifCond .ne 9, 3) := eX10_come_8.2.1
theorem dX10_come_22 : decode cX10_come 22 = .ok (.aload_n 0, 1) := eX10_come_8.2.2.1
theorem dX10_come_23 : decode cX10_come 23 = .ok (.iconst (-1), 1) := eX10_come_8.2.2.2.1
theorem dX10_come_24 : decode cX10_come 24 = .ok (.invokevirtual 97, 3) := eX10_come_8.2.2.2.2.1
theorem dX10_come_27 : decode cX10_come 27 = .ok (.ireturn, 1) := eX10_come_8.2.2.2.2.2.1
theorem dX10_come_28 : decode cX10_come 28 = .ok (.aload_n 0, 1) := eX10_come_8.2.2.2.2.2.2.1
theorem dX10_come_29 : decode cX10_come 29 = .ok (.getfield 26, 3) := eX10_come_8.2.2.2.2.2.2.2
theorem eX10_come_16 : (decode cX10_come 32 = .ok (.iload_n 1, 1)) ∧ (decode cX10_come 33 = .ok (.invokevirtual 135, 3)) ∧ (decode cX10_come 36 = .ok (.ifCond .ne 10, 3)) ∧ (decode cX10_come 39 = .ok (.aload_n 0, 1)) ∧ (decode cX10_come 40 = .ok (.bipush (-2), 2)) ∧ (decode cX10_come 42 = .ok (.invokevirtual 97, 3)) ∧ (decode cX10_come 45 = .ok (.ireturn, 1)) ∧ (decode cX10_come 46 = .ok (.aload_n 0, 1)) := by decide +kernel
theorem dX10_come_32 : decode cX10_come 32 = .ok (.iload_n 1, 1) := eX10_come_16.1
theorem dX10_come_33 : decode cX10_come 33 = .ok (.invokevirtual 135, 3) := eX10_come_16.2.1
theorem dX10_come_36 : decode cX10_come 36 = .ok (.ifCond .ne 10, 3) := eX10_come_16.2.2.1
theorem dX10_come_39 : decode cX10_come 39 = .ok (.aload_n 0, 1) := eX10_come_16.2.2.2.1
theorem dX10_come_40 : decode cX10_come 40 = .ok (.bipush (-2), 2) := eX10_come_16.2.2.2.2.1
theorem dX10_come_42 : decode cX10_come 42 = .ok (.invokevirtual 97, 3) := eX10_come_16.2.2.2.2.2.1
theorem dX10_come_45 : decode cX10_come 45 = .ok (.ireturn, 1) := eX10_come_16.2.2.2.2.2.2.1
theorem dX10_come_46 : decode cX10_come 46 = .ok (.aload_n 0, 1) := eX10_come_16.2.2.2.2.2.2.2
theorem eX10_come_24 : (decode cX10_come 47 = .ok (.getfield 26, 3)) ∧ (decode cX10_come 50 = .ok (.getfield 183, 3)) ∧ (decode cX10_come 53 = .ok (.iload_n 1, 1)) ∧ (decode cX10_come 54 = .ok (.bipush 51, 2)) ∧ (decode cX10_come 56 = .ok (.imul, 1)) ∧ (decode cX10_come 57 = .ok (.iload_n 2, 1)) ∧ (decode cX10_come 58 = .ok (.iadd, 1)) ∧ (decode cX10_come 59 = .ok (.bipush (-40), 2)) := by decide +kernel
theorem dX10_come_47 : decode cX10_come 47 = .ok (.getfield 26, 3) := eX10_come_24.1
theorem dX10_come_50 : decode cX10_come 50 = .ok (.getfield 183, 3) := eX10_come_24.2.1
theorem dX10_come_53 : decode cX10_come 53 = .ok (.iload_n 1, 1) := eX10_come_24.2.2.1
theorem dX10_come_54 : decode cX10_come 54 = .ok (.bipush 51, 2) := eX10_come_24.2.2.2.1
theorem dX10_come_56 : decode cX10_come 56 = .ok (.imul, 1) := eX10_come_24.2.2.2.2.1
theorem dX10_come_57 : decode cX10_come 57 = .ok (.iload_n 2, 1) := eX10_come_24.2.2.2.2.2.1
theorem dX10_come_58 : decode cX10_come 58 = .ok (.iadd, 1) := eX10_come_24.2.2.2.2.2.2.1
theorem dX10_come_59 : decode cX10_come 59 = .ok (.bipush (-40), 2) := eX10_come_24.2.2.2.2.2.2.2
theorem eX10_come_32 : (decode cX10_come 61 = .ok (.isub, 1)) ∧ (decode cX10_come 62 = .ok (.iload_n 3, 1)) ∧ (decode cX10_come 63 = .ok (.iastore, 1)) ∧ (decode cX10_come 64 = .ok (.aload_n 0, 1)) ∧ (decode cX10_come 65 = .ok (.iconst 0, 1)) ∧ (decode cX10_come 66 = .ok (.invokevirtual 97, 3)) ∧ (decode cX10_come 69 = .ok (.ireturn, 1)) := by decide +kernel
theorem dX10_come_61 : decode cX10_come 61 = .ok (.isub, 1) := eX10_come_32.1
theorem dX10_come_62 : decode cX10_come 62 = .ok (.iload_n 3, 1) := eX10_come_32.2.1
theorem dX10_come_63 : decode cX10_come 63 = .ok (.iastore, 1) := eX10_come_32.2.2.1
theorem dX10_come_64 : decode cX10_come 64 = .ok (.aload_n 0, 1) := eX10_come_32.2.2.2.1
theorem dX10_come_65 : decode cX10_come 65 = .ok (.iconst 0, 1) := eX10_come_32.2.2.2.2.1
theorem dX10_come_66 : decode cX10_come 66 = .ok (.invokevirtual 97, 3) := eX10_come_32.2.2.2.2.2.1
theorem dX10_come_69 : decode cX10_come 69 = .ok (.ireturn, 1) := eX10_come_32.2.2.2.2.2.2
theorem eX10_doors_0 : (decode cX10_doors 0 = .ok (.iload_n 1, 1)) ∧ (decode cX10_doors 1 = .ok (.iconst 1, 1)) ∧ (decode cX10_doors 2 = .ok (.sipush 500, 3)) ∧ (decode cX10_doors 5 = .ok (.invokestatic 93, 3)) ∧ (decode cX10_doors 8 = .ok (.ifCond .ne 9, 3)) ∧ (decode cX10_doors 11 = .ok (.aload_n 0, 1)) ∧ (decode cX10_doors 12 = .ok (.iconst (-1), 1)) ∧ (decode cX10_doors 13 = .ok (.invokevirtual 97, 3)) := by decide +kernel
theorem dX10_doors_0 : decode cX10_doors 0 = .ok (.iload_n 1, 1) := eX10_doors_0.1
theorem dX10_doors_1 : decode cX10_doors 1 = .ok (.iconst 1, 1) := eX10_doors_0.2.1
theorem dX10_doors_2 : decode cX10_doors 2 = .ok (.sipush 500, 3) := eX10_doors_0.2.2.1
theorem dX10_doors_5 : decode cX10_doors 5 = .ok (.invokestatic 93, 3) := eX10_doors_0.2.2.2.1
theorem dX10_doors_8 : decode cX10_doors 8 = .ok (.ifCond .ne 9, 3) := eX10_doors_0.2.2.2.2.1
theorem dX10_doors_11 : decode cX10_doors 11 = .ok (.aload_n 0, 1) := eX10_doors_0.2.2.2.2.2.1
theorem dX10_doors_12 : decode cX10_doors 12 = .ok (.iconst (-1), 1) := eX10_doors_0.2.2.2.2.2.2.1
theorem dX10_doors_13 : decode cX10_doors 13 = .ok (.invokevirtual 97, 3) := eX10_doors_0.2.2.2.2.2.2.2
theorem eX10_doors_8 : (decode cX10_doors 16 = .ok (.ireturn, 1)) ∧ (decode cX10_doors 17 = .ok (.aload_n 0, 1)) ∧ (decode cX10_doors 18 = .ok (.getfield 51, 3)) ∧ (decode cX10_doors 21 = .ok (.getfield 186, 3)) ∧ (decode cX10_doors 24 = .ok (.istore_n 2, 1)) ∧ (decode cX10_doors 25 = .ok (.aload_n 0, 1)) ∧ (decode cX10_doors 26 = .ok (.getfield 51, 3)) ∧ (decode cX10_doors 29 = .ok (.iload_n 1, 1)) := by decide +kernel
theorem dX10_doors_16 : decode cX10_doors 16 = .ok (.ireturn, 1) := eX10_doors_8.1
theorem dX10_doors_17 : decode cX10_doors 17 = .ok (.aload_n 0, 1) := eX10_doors_8.2.1
theorem dX10_doors_18 : decode cX10_doors 18 = .ok (.getfield 51, 3) := eX10_doors_8.2.2.1
theorem dX10_doors_21 : decode cX10_doors 21 = .ok (.getfield 186, 3) := eX10_doors_8.2.2.2.1
theorem dX10_doors_24 : decode cX10_doors 24 = .ok (.istore_n 2, 1) := eX10_doors_8.2.2.2.2.1
theorem dX10_doors_25 : decode cX10_doors 25 = .ok (.aload_n 0, 1) := eX10_doors_8.2.2.2.2.2.1
theorem dX10_doors_26 : decode cX10_doors 26 = .ok (.getfield 51, 3) := eX10_doors_8.2.2.2.2.2.2.1
theorem dX10_doors_29 : decode cX10_doors 29 = .ok (.iload_n 1, 1) := eX10_doors_8.2.2.2.2.2.2.2
theorem eX10_doors_16 : (decode cX10_doors 30 = .ok (.putfield 186, 3)) ∧ (decode cX10_doors 33 = .ok (.aload_n 0, 1)) ∧ (decode cX10_doors 34 = .ok (.iload_n 2, 1)) ∧ (decode cX10_doors 35 = .ok (.invokevirtual 97, 3)) ∧ (decode cX10_doors 38 = .ok (.ireturn, 1)) := by decide +kernel
theorem dX10_doors_30 : decode cX10_doors 30 = .ok (.putfield 186, 3) := eX10_doors_16.1
theorem dX10_doors_33 : decode cX10_doors 33 = .ok (.aload_n 0, 1) := eX10_doors_16.2.1
theorem dX10_doors_34 : decode cX10_doors 34 = .ok (.iload_n 2, 1) := eX10_doors_16.2.2.1
theorem dX10_doors_35 : decode cX10_doors 35 = .ok (.invokevirtual 97, 3) := eX10_doors_16.2.2.2.1
theorem dX10_doors_38 : decode cX10_doors 38 = .ok (.ireturn, 1) := eX10_doors_16.2.2.2.2
theorem eX10_delay_0 : (decode cX10_delay 0 = .ok (.iload_n 2, 1)) ∧ (decode cX10_delay 1 = .ok (.iconst 0, 1)) ∧ (decode cX10_delay 2 = .ok (.sipush 300, 3)) ∧ (decode cX10_delay 5 = .ok (.invokestatic 93, 3)) ∧ (decode cX10_delay 8 = .ok (.ifCond .ne 9, 3)) ∧ (decode cX10_delay 11 = .ok (.aload_n 0, 1)) ∧ (decode cX10_delay 12 = .ok (.iconst (-1), 1)) ∧ (decode cX10_delay 13 = .ok (.invokevirtual 97, 3)) := by decide +kernel
theorem dX10_delay_0 : decode cX10_delay 0 = .ok (.iload_n 2, 1) := eX10_delay_0.1
theorem dX10_delay_1 : decode cX10_delay 1 = .ok (.iconst 0, 1) := eX10_delay_0.2.1
theorem dX10_delay_2 : decode cX10_delay 2 = .ok (.sipush 300, 3) := eX10_delay_0.2.2.1
theorem dX10_delay_5 : decode cX10_delay 5 = .ok (.invokestatic 93, 3) := eX10_delay_0.2.2.2.1
theorem dX10_delay_8 : decode cX10_delay 8 = .ok (.ifCond .ne 9, 3) := eX10_delay_0.2.2.2.2.1
theorem dX10_delay_11 : decode cX10_delay 11 = .ok (.aload_n 0, 1) := eX10_delay_0.2.2.2.2.2.1
theorem dX10_delay_12 : decode cX10_delay 12 = .ok (.iconst (-1), 1) := eX10_delay_0.2.2.2.2.2.2.1
theorem dX10_delay_13 : decode cX10_delay 13 = .ok (.invokevirtual 97, 3) := eX10_delay_0.2.2.2.2.2.2.2
theorem eX10_delay_8 : (decode cX10_delay 16 = .ok (.ireturn, 1)) ∧ (decode cX10_delay 17 = .ok (.aload_n 0, 1)) ∧ (decode cX10_delay 18 = .ok (.getfield 26, 3)) ∧ (decode cX10_delay 21 = .ok (.iload_n 1, 1)) ∧ (decode cX10_delay 22 = .ok (.invokevirtual 135, 3)) ∧ (decode cX10_delay 25 = .ok (.ifCond .ne 10, 3)) ∧ (decode cX10_delay 28 = .ok (.aload_n 0, 1)) ∧ (decode cX10_delay 29 = .ok (.bipush (-2), 2)) := by decide +kernel
theorem dX10_delay_16 : decode cX10_delay 16 = .ok (.ireturn, 1) := eX10_delay_8.1
theorem dX10_delay_17 : decode cX10_delay 17 = .ok (.aload_n 0, 1) := eX10_delay_8.2.1
theorem dX10_delay_18 : decode cX10_delay 18 = .ok (.getfield 26, 3) := eX10_delay_8.2.2.1
theorem dX10_delay_21 : decode cX10_delay 21 = .ok (.iload_n 1, 1) := eX10_delay_8.2.2.2.1
theorem dX10_delay_22 : decode cX10_delay 22 = .ok (.invokevirtual 135, 3) := eX10_delay_8.2.2.2.2.1
theorem dX10_delay_25 : decode cX10_delay 25 = .ok (.ifCond .ne 10, 3) := eX10_delay_8.2.2.2.2.2.1
theorem dX10_delay_28 : decode cX10_delay 28 = .ok (.aload_n 0, 1) := eX10_delay_8.2.2.2.2.2.2.1
theorem dX10_delay_29 : decode cX10_delay 29 = .ok (.bipush (-2), 2) := eX10_delay_8.2.2.2.2.2.2.2
theorem eX10_delay_16 : (decode cX10_delay 31 = .ok (.invokevirtual 97, 3)) ∧ (decode cX10_delay 34 = .ok (.ireturn, 1)) ∧ (decode cX10_delay 35 = .ok (.aload_n 0, 1)) ∧ (decode cX10_delay 36 = .ok (.getfield 26, 3)) ∧ (decode cX10_delay 39 = .ok (.getfield 189, 3)) ∧ (decode cX10_delay 42 = .ok (.iload_n 1, 1)) ∧ (decode cX10_delay 43 = .ok (.iload_n 2, 1)) ∧ (decode cX10_delay 44 = .ok (.iastore, 1)) := by decide +kernel
theorem dX10_delay_31 : decode cX10_delay 31 = .ok (.invokevirtual 97, 3) := eX10_delay_16.1
theorem dX10_delay_34 : decode cX10_delay 34 = .ok (.ireturn, 1) := eX10_delay_16.2.1
theorem dX10_delay_35 : decode cX10_delay 35 = .ok (.aload_n 0, 1) := eX10_delay_16.2.2.1
theorem dX10_delay_36 : decode cX10_delay 36 = .ok (.getfield 26, 3) := eX10_delay_16.2.2.2.1
theorem dX10_delay_39 : decode cX10_delay 39 = .ok (.getfield 189, 3) := eX10_delay_16.2.2.2.2.1
theorem dX10_delay_42 : decode cX10_delay 42 = .ok (.iload_n 1, 1) := eX10_delay_16.2.2.2.2.2.1
theorem dX10_delay_43 : decode cX10_delay 43 = .ok (.iload_n 2, 1) := eX10_delay_16.2.2.2.2.2.2.1
theorem dX10_delay_44 : decode cX10_delay 44 = .ok (.iastore, 1) := eX10_delay_16.2.2.2.2.2.2.2
theorem eX10_delay_24 : (decode cX10_delay 45 = .ok (.aload_n 0, 1)) ∧ (decode cX10_delay 46 = .ok (.iconst 0, 1)) ∧ (decode cX10_delay 47 = .ok (.invokevirtual 97, 3)) ∧ (decode cX10_delay 50 = .ok (.ireturn, 1)) := by decide +kernel
theorem dX10_delay_45 : decode cX10_delay 45 = .ok (.aload_n 0, 1) := eX10_delay_24.1
theorem dX10_delay_46 : decode cX10_delay 46 = .ok (.iconst 0, 1) := eX10_delay_24.2.1
theorem dX10_delay_47 : decode cX10_delay 47 = .ok (.invokevirtual 97, 3) := eX10_delay_24.2.2.1
theorem dX10_delay_50 : decode cX10_delay 50 = .ok (.ireturn, 1) := eX10_delay_24.2.2.2
theorem eX10_queue_0 : (decode cX10_queue 0 = .ok (.iload_n 2, 1)) ∧ (decode cX10_queue 1 = .ok (.bipush (-40), 2)) ∧ (decode cX10_queue 3 = .ok (.sipush 400, 3)) ∧ (decode cX10_queue 6 = .ok (.invokestatic 93, 3)) ∧ (decode cX10_queue 9 = .ok (.ifCond .eq 23, 3)) ∧ (decode cX10_queue 12 = .ok (.iload_n 3, 1)) ∧ (decode cX10_queue 13 = .ok (.iconst 0, 1)) ∧ (decode cX10_queue 14 = .ok (.iconst 2, 1)) := by decide +kernel
theorem dX10_queue_0 : decode cX10_queue 0 = .ok (.iload_n 2, 1) := eX10_queue_0.1
theorem dX10_queue_1 : decode cX10_queue 1 = .ok (.bipush (-40), 2) := eX10_queue_0.2.1
theorem dX10_queue_3 : decode cX10_queue 3 = .ok (.sipush 400, 3) := eX10_queue_0.2.2.1
theorem dX10_queue_6 : decode cX10_queue 6 = .ok (.invokestatic 93, 3) := eX10_queue_0.2.2.2.1
theorem dX10_queue_9 : decode cX10_queue 9 = .ok (.ifCond .eq 23, 3) := eX10_queue_0.2.2.2.2.1
theorem dX10_queue_12 : decode cX10_queue 12 = .ok (.iload_n 3, 1) := eX10_queue_0.2.2.2.2.2.1
theorem dX10_queue_13 : decode cX10_queue 13 = .ok (.iconst 0, 1) := eX10_queue_0.2.2.2.2.2.2.1
theorem dX10_queue_14 : decode cX10_queue 14 = .ok (.iconst 2, 1) := eX10_queue_0.2.2.2.2.2.2.2
theorem eX10_queue_8 : (decode cX10_queue 15 = .ok (.invokestatic 93, 3)) ∧ (decode cX10_queue 18 = .ok (.ifCond .eq 14, 3)) ∧ (decode cX10_queue 21 = .ok (.aload_n 0, 1)) ∧ (decode cX10_queue 22 = .ok (.getfield 26, 3)) ∧ (decode cX10_queue 25 = .ok (.iload_n 1, 1)) ∧ (decode cX10_queue 26 = .ok (.invokevirtual 135, 3)) ∧ (decode cX10_queue 29 = .ok (.ifCond .ne 5, 3)) ∧ (decode cX10_queue 32 = .ok (.iconst (-1), 1)) := by decide +kernel
theorem dX10_queue_15 : decode cX10_queue 15 = .ok (.invokestatic 93, 3) := eX10_queue_8.1
theorem dX10_queue_18 : decode cX10_queue 18 = .ok (.ifCond .eq 14, 3) := eX10_queue_8.2.1
theorem dX10_queue_21 : decode cX10_queue 21 = .ok (.aload_n 0, 1) := eX10_queue_8.2.2.1
theorem dX10_queue_22 : decode cX10_queue 22 = .ok (.getfield 26, 3) := eX10_queue_8.2.2.2.1
theorem dX10_queue_25 : decode cX10_queue 25 = .ok (.iload_n 1, 1) := eX10_queue_8.2.2.2.2.1
theorem dX10_queue_26 : decode cX10_queue 26 = .ok (.invokevirtual 135, 3) := eX10_queue_8.2.2.2.2.2.1
theorem dX10_queue_29 : decode cX10_queue 29 = .ok (.ifCond .ne 5, 3) := eX10_queue_8.2.2.2.2.2.2.1
theorem dX10_queue_32 : decode cX10_queue 32 = .ok (.iconst (-1), 1) := eX10_queue_8.2.2.2.2.2.2.2
theorem eX10_queue_16 : (decode cX10_queue 33 = .ok (.ireturn, 1)) ∧ (decode cX10_queue 34 = .ok (.aload_n 0, 1)) ∧ (decode cX10_queue 35 = .ok (.getfield 51, 3)) ∧ (decode cX10_queue 38 = .ok (.invokevirtual 161, 3)) ∧ (decode cX10_queue 41 = .ok (.aload_n 0, 1)) ∧ (decode cX10_queue 42 = .ok (.getfield 51, 3)) ∧ (decode cX10_queue 45 = .ok (.iload_n 1, 1)) ∧ (decode cX10_queue 46 = .ok (.iload_n 2, 1)) := by decide +kernel
theorem dX10_queue_33 : decode cX10_queue 33 = .ok (.ireturn, 1) := eX10_queue_16.1
theorem dX10_queue_34 : decode cX10_queue 34 = .ok (.aload_n 0, 1) := eX10_queue_16.2.1
theorem dX10_queue_35 : decode cX10_queue 35 = .ok (.getfield 51, 3) := eX10_queue_16.2.2.1
theorem dX10_queue_38 : decode cX10_queue 38 = .ok (.invokevirtual 161, 3) := eX10_queue_16.2.2.2.1
theorem dX10_queue_41 : decode cX10_queue 41 = .ok (.aload_n 0, 1) := eX10_queue_16.2.2.2.2.1
theorem dX10_queue_42 : decode cX10_queue 42 = .ok (.getfield 51, 3) := eX10_queue_16.2.2.2.2.2.1
theorem dX10_queue_45 : decode cX10_queue 45 = .ok (.iload_n 1, 1) := eX10_queue_16.2.2.2.2.2.2.1
theorem dX10_queue_46 : decode cX10_queue 46 = .ok (.iload_n 2, 1) := eX10_queue_16.2.2.2.2.2.2.2
theorem eX10_queue_24 : (decode cX10_queue 47 = .ok (.invokevirtual 192, 3)) ∧ (decode cX10_queue 50 = .ok (.iload_n 3, 1)) ∧ (decode cX10_queue 51 = .ok (.ifCond .ne 11, 3)) ∧ (decode cX10_queue 54 = .ok (.aload_n 0, 1)) ∧ (decode cX10_queue 55 = .ok (.getfield 51, 3)) ∧ (decode cX10_queue 58 = .ok (.getfield 196, 3)) ∧ (decode cX10_queue 61 = .ok (.ireturn, 1)) ∧ (decode cX10_queue 62 = .ok (.iload_n 3, 1)) := by decide +kernel
theorem dX10_queue_47 : decode cX10_queue 47 = .ok (.invokevirtual 192, 3) := eX10_queue_24.1
theorem dX10_queue_50 : decode cX10_queue 50 = .ok (.iload_n 3, 1) := eX10_queue_24.2.1
theorem dX10_queue_51 : decode cX10_queue 51 = .ok (.ifCond .ne 11, 3) := eX10_queue_24.2.2.1
theorem dX10_queue_54 : decode cX10_queue 54 = .ok (.aload_n 0, 1) := eX10_queue_24.2.2.2.1
theorem dX10_queue_55 : decode cX10_queue 55 = .ok (.getfield 51, 3) := eX10_queue_24.2.2.2.2.1
theorem dX10_queue_58 : decode cX10_queue 58 = .ok (.getfield 196, 3) := eX10_queue_24.2.2.2.2.2.1
theorem dX10_queue_61 : decode cX10_queue 61 = .ok (.ireturn, 1) := eX10_queue_24.2.2.2.2.2.2.1
theorem dX10_queue_62 : decode cX10_queue 62 = .ok (.iload_n 3, 1) := eX10_queue_24.2.2.2.2.2.2.2
theorem eX10_queue_32 : (decode cX10_queue 63 = .ok (.iconst 1, 1)) ∧ (decode cX10_queue 64 = .ok (.if_icmp .ne 13, 3)) ∧ (decode cX10_queue 67 = .ok (.aload_n 0, 1)) ∧ (decode cX10_queue 68 = .ok (.getfield 51, 3)) ∧ (decode cX10_queue 71 = .ok (.getfield 199, 3)) ∧ (decode cX10_queue 74 = .ok (.goto 18, 3)) ∧ (decode cX10_queue 77 = .ok (.aload_n 0, 1)) ∧ (decode cX10_queue 78 = .ok (.getfield 51, 3)) := by decide +kernel
theorem dX10_queue_63 : decode cX10_queue 63 = .ok (.iconst 1, 1) := eX10_queue_32.1
theorem dX10_queue_64 : decode cX10_queue 64 = .ok (.if_icmp .ne 13, 3) := eX10_queue_32.2.1
theorem dX10_queue_67 : decode cX10_queue 67 = .ok (.aload_n 0, 1) := eX10_queue_32.2.2.1
theorem dX10_queue_68 : decode cX10_queue 68 = .ok (.getfield 51, 3) := eX10_queue_32.2.2.2.1
theorem dX10_queue_71 : decode cX10_queue 71 = .ok (.getfield 199, 3) := eX10_queue_32.2.2.2.2.1
theorem dX10_queue_74 : decode cX10_queue 74 = .ok (.goto 18, 3) := eX10_queue_32.2.2.2.2.2.1
theorem dX10_queue_77 : decode cX10_queue 77 = .ok (.aload_n 0, 1) := eX10_queue_32.2.2.2.2.2.2.1
theorem dX10_queue_78 : decode cX10_queue 78 = .ok (.getfield 51, 3) := eX10_queue_32.2.2.2.2.2.2.2
theorem eX10_queue_40 : (decode cX10_queue 81 = .ok (.getfield 196, 3)) ∧ (decode cX10_queue 84 = .ok (.aload_n 0, 1)) ∧ (decode cX10_queue 85 = .ok (.getfield 51, 3)) ∧ (decode cX10_queue 88 = .ok (.getfield 199, 3)) ∧ (decode cX10_queue 91 = .ok (.iadd, 1)) ∧ (decode cX10_queue 92 = .ok (.ireturn, 1)) := by decide +kernel
theorem dX10_queue_81 : decode cX10_queue 81 = .ok (.getfield 196, 3) := eX10_queue_40.1
theorem dX10_queue_84 : decode cX10_queue 84 = .ok (.aload_n 0, 1) := eX10_queue_40.2.1
theorem dX10_queue_85 : decode cX10_queue 85 = .ok (.getfield 51, 3) := eX10_queue_40.2.2.1
theorem dX10_queue_88 : decode cX10_queue 88 = .ok (.getfield 199, 3) := eX10_queue_40.2.2.2.1
theorem dX10_queue_91 : decode cX10_queue 91 = .ok (.iadd, 1) := eX10_queue_40.2.2.2.2.1
theorem dX10_queue_92 : decode cX10_queue 92 = .ok (.ireturn, 1) := eX10_queue_40.2.2.2.2.2
theorem eX10_juror_0 : (decode cX10_juror 0 = .ok (.iload_n 1, 1)) ∧ (decode cX10_juror 1 = .ok (.iconst 0, 1)) ∧ (decode cX10_juror 2 = .ok (.bipush 120, 2)) ∧ (decode cX10_juror 4 = .ok (.invokestatic 93, 3)) ∧ (decode cX10_juror 7 = .ok (.ifCond .ne 9, 3)) ∧ (decode cX10_juror 10 = .ok (.aload_n 0, 1)) ∧ (decode cX10_juror 11 = .ok (.iconst (-1), 1)) ∧ (decode cX10_juror 12 = .ok (.invokevirtual 97, 3)) := by decide +kernel
theorem dX10_juror_0 : decode cX10_juror 0 = .ok (.iload_n 1, 1) := eX10_juror_0.1
theorem dX10_juror_1 : decode cX10_juror 1 = .ok (.iconst 0, 1) := eX10_juror_0.2.1
theorem dX10_juror_2 : decode cX10_juror 2 = .ok (.bipush 120, 2) := eX10_juror_0.2.2.1
theorem dX10_juror_4 : decode cX10_juror 4 = .ok (.invokestatic 93, 3) := eX10_juror_0.2.2.2.1
theorem dX10_juror_7 : decode cX10_juror 7 = .ok (.ifCond .ne 9, 3) := eX10_juror_0.2.2.2.2.1
theorem dX10_juror_10 : decode cX10_juror 10 = .ok (.aload_n 0, 1) := eX10_juror_0.2.2.2.2.2.1
theorem dX10_juror_11 : decode cX10_juror 11 = .ok (.iconst (-1), 1) := eX10_juror_0.2.2.2.2.2.2.1
theorem dX10_juror_12 : decode cX10_juror 12 = .ok (.invokevirtual 97, 3) := eX10_juror_0.2.2.2.2.2.2.2
theorem eX10_juror_8 : (decode cX10_juror 15 = .ok (.ireturn, 1)) ∧ (decode cX10_juror 16 = .ok (.aload_n 0, 1)) ∧ (decode cX10_juror 17 = .ok (.aload_n 0, 1)) ∧ (decode cX10_juror 18 = .ok (.getfield 58, 3)) ∧ (decode cX10_juror 21 = .ok (.iload_n 1, 1)) ∧ (decode cX10_juror 22 = .ok (.invokevirtual 202, 3)) ∧ (decode cX10_juror 25 = .ok (.invokevirtual 97, 3)) ∧ (decode cX10_juror 28 = .ok (.ireturn, 1)) := by decide +kernel
theorem dX10_juror_15 : decode cX10_juror 15 = .ok (.ireturn, 1) := eX10_juror_8.1
theorem dX10_juror_16 : decode cX10_juror 16 = .ok (.aload_n 0, 1) := eX10_juror_8.2.1
theorem dX10_juror_17 : decode cX10_juror 17 = .ok (.aload_n 0, 1) := eX10_juror_8.2.2.1
theorem dX10_juror_18 : decode cX10_juror 18 = .ok (.getfield 58, 3) := eX10_juror_8.2.2.2.1
theorem dX10_juror_21 : decode cX10_juror 21 = .ok (.iload_n 1, 1) := eX10_juror_8.2.2.2.2.1
theorem dX10_juror_22 : decode cX10_juror 22 = .ok (.invokevirtual 202, 3) := eX10_juror_8.2.2.2.2.2.1
theorem dX10_juror_25 : decode cX10_juror 25 = .ok (.invokevirtual 97, 3) := eX10_juror_8.2.2.2.2.2.2.1
theorem dX10_juror_28 : decode cX10_juror 28 = .ok (.ireturn, 1) := eX10_juror_8.2.2.2.2.2.2.2
theorem eX10_vote_0 : (decode cX10_vote 0 = .ok (.aload_n 0, 1)) ∧ (decode cX10_vote 1 = .ok (.getfield 58, 3)) ∧ (decode cX10_vote 4 = .ok (.iload_n 1, 1)) ∧ (decode cX10_vote 5 = .ok (.invokevirtual 204, 3)) ∧ (decode cX10_vote 8 = .ok (.ifCond .eq 14, 3)) ∧ (decode cX10_vote 11 = .ok (.aload_n 0, 1)) ∧ (decode cX10_vote 12 = .ok (.getfield 19, 3)) ∧ (decode cX10_vote 15 = .ok (.iload_n 2, 1)) := by decide +kernel
theorem dX10_vote_0 : decode cX10_vote 0 = .ok (.aload_n 0, 1) := eX10_vote_0.1
theorem dX10_vote_1 : decode cX10_vote 1 = .ok (.getfield 58, 3) := eX10_vote_0.2.1
theorem dX10_vote_4 : decode cX10_vote 4 = .ok (.iload_n 1, 1) := eX10_vote_0.2.2.1
theorem dX10_vote_5 : decode cX10_vote 5 = .ok (.invokevirtual 204, 3) := eX10_vote_0.2.2.2.1
theorem dX10_vote_8 : decode cX10_vote 8 = .ok (.ifCond .eq 14, 3) := eX10_vote_0.2.2.2.2.1
theorem dX10_vote_11 : decode cX10_vote 11 = .ok (.aload_n 0, 1) := eX10_vote_0.2.2.2.2.2.1
theorem dX10_vote_12 : decode cX10_vote 12 = .ok (.getfield 19, 3) := eX10_vote_0.2.2.2.2.2.2.1
theorem dX10_vote_15 : decode cX10_vote 15 = .ok (.iload_n 2, 1) := eX10_vote_0.2.2.2.2.2.2.2
theorem eX10_vote_8 : (decode cX10_vote 16 = .ok (.invokevirtual 115, 3)) ∧ (decode cX10_vote 19 = .ok (.ifCond .ne 10, 3)) ∧ (decode cX10_vote 22 = .ok (.aload_n 0, 1)) ∧ (decode cX10_vote 23 = .ok (.bipush (-2), 2)) ∧ (decode cX10_vote 25 = .ok (.invokevirtual 97, 3)) ∧ (decode cX10_vote 28 = .ok (.ireturn, 1)) ∧ (decode cX10_vote 29 = .ok (.aload_n 0, 1)) ∧ (decode cX10_vote 30 = .ok (.aload_n 0, 1)) := by decide +kernel
theorem dX10_vote_16 : decode cX10_vote 16 = .ok (.invokevirtual 115, 3) := eX10_vote_8.1
theorem dX10_vote_19 : decode cX10_vote 19 = .ok (.ifCond .ne 10, 3) := eX10_vote_8.2.1
theorem dX10_vote_22 : decode cX10_vote 22 = .ok (.aload_n 0, 1) := eX10_vote_8.2.2.1
theorem dX10_vote_23 : decode cX10_vote 23 = .ok (.bipush (-2), 2) := eX10_vote_8.2.2.2.1
theorem dX10_vote_25 : decode cX10_vote 25 = .ok (.invokevirtual 97, 3) := eX10_vote_8.2.2.2.2.1
theorem dX10_vote_28 : decode cX10_vote 28 = .ok (.ireturn, 1) := eX10_vote_8.2.2.2.2.2.1
theorem dX10_vote_29 : decode cX10_vote 29 = .ok (.aload_n 0, 1) := eX10_vote_8.2.2.2.2.2.2.1
theorem dX10_vote_30 : decode cX10_vote 30 = .ok (.aload_n 0, 1) := eX10_vote_8.2.2.2.2.2.2.2
theorem eX10_vote_16 : (decode cX10_vote 31 = .ok (.getfield 58, 3)) ∧ (decode cX10_vote 34 = .ok (.iload_n 1, 1)) ∧ (decode cX10_vote 35 = .ok (.iload_n 2, 1)) ∧ (decode cX10_vote 36 = .ok (.invokevirtual 205, 3)) ∧ (decode cX10_vote 39 = .ok (.invokevirtual 97, 3)) ∧ (decode cX10_vote 42 = .ok (.ireturn, 1)) := by decide +kernel
theorem dX10_vote_31 : decode cX10_vote 31 = .ok (.getfield 58, 3) := eX10_vote_16.1
theorem dX10_vote_34 : decode cX10_vote 34 = .ok (.iload_n 1, 1) := eX10_vote_16.2.1
theorem dX10_vote_35 : decode cX10_vote 35 = .ok (.iload_n 2, 1) := eX10_vote_16.2.2.1
theorem dX10_vote_36 : decode cX10_vote 36 = .ok (.invokevirtual 205, 3) := eX10_vote_16.2.2.2.1
theorem dX10_vote_39 : decode cX10_vote 39 = .ok (.invokevirtual 97, 3) := eX10_vote_16.2.2.2.2.1
theorem dX10_vote_42 : decode cX10_vote 42 = .ok (.ireturn, 1) := eX10_vote_16.2.2.2.2.2
theorem eX10_clear_0 : (decode cX10_clear 0 = .ok (.aload_n 0, 1)) ∧ (decode cX10_clear 1 = .ok (.getfield 58, 3)) ∧ (decode cX10_clear 4 = .ok (.iload_n 1, 1)) ∧ (decode cX10_clear 5 = .ok (.invokevirtual 204, 3)) ∧ (decode cX10_clear 8 = .ok (.ifCond .ne 10, 3)) ∧ (decode cX10_clear 11 = .ok (.aload_n 0, 1)) ∧ (decode cX10_clear 12 = .ok (.bipush (-2), 2)) ∧ (decode cX10_clear 14 = .ok (.invokevirtual 97, 3)) := by decide +kernel
theorem dX10_clear_0 : decode cX10_clear 0 = .ok (.aload_n 0, 1) := eX10_clear_0.1
theorem dX10_clear_1 : decode cX10_clear 1 = .ok (.getfield 58, 3) := eX10_clear_0.2.1
theorem dX10_clear_4 : decode cX10_clear 4 = .ok (.iload_n 1, 1) := eX10_clear_0.2.2.1
theorem dX10_clear_5 : decode cX10_clear 5 = .ok (.invokevirtual 204, 3) := eX10_clear_0.2.2.2.1
theorem dX10_clear_8 : decode cX10_clear 8 = .ok (.ifCond .ne 10, 3) := eX10_clear_0.2.2.2.2.1
theorem dX10_clear_11 : decode cX10_clear 11 = .ok (.aload_n 0, 1) := eX10_clear_0.2.2.2.2.2.1
theorem dX10_clear_12 : decode cX10_clear 12 = .ok (.bipush (-2), 2) := eX10_clear_0.2.2.2.2.2.2.1
theorem dX10_clear_14 : decode cX10_clear 14 = .ok (.invokevirtual 97, 3) := eX10_clear_0.2.2.2.2.2.2.2
theorem eX10_clear_8 : (decode cX10_clear 17 = .ok (.ireturn, 1)) ∧ (decode cX10_clear 18 = .ok (.aload_n 0, 1)) ∧ (decode cX10_clear 19 = .ok (.getfield 58, 3)) ∧ (decode cX10_clear 22 = .ok (.getfield 209, 3)) ∧ (decode cX10_clear 25 = .ok (.iload_n 1, 1)) ∧ (decode cX10_clear 26 = .ok (.iaload, 1)) ∧ (decode cX10_clear 27 = .ok (.istore_n 2, 1)) ∧ (decode cX10_clear 28 = .ok (.aload_n 0, 1)) := by decide +kernel
theorem dX10_clear_17 : decode cX10_clear 17 = .ok (.ireturn, 1) := eX10_clear_8.1
theorem dX10_clear_18 : decode cX10_clear 18 = .ok (.aload_n 0, 1) := eX10_clear_8.2.1
theorem dX10_clear_19 : decode cX10_clear 19 = .ok (.getfield 58, 3) := eX10_clear_8.2.2.1
theorem dX10_clear_22 : decode cX10_clear 22 = .ok (.getfield 209, 3) := eX10_clear_8.2.2.2.1
theorem dX10_clear_25 : decode cX10_clear 25 = .ok (.iload_n 1, 1) := eX10_clear_8.2.2.2.2.1
theorem dX10_clear_26 : decode cX10_clear 26 = .ok (.iaload, 1) := eX10_clear_8.2.2.2.2.2.1
theorem dX10_clear_27 : decode cX10_clear 27 = .ok (.istore_n 2, 1) := eX10_clear_8.2.2.2.2.2.2.1
theorem dX10_clear_28 : decode cX10_clear 28 = .ok (.aload_n 0, 1) := eX10_clear_8.2.2.2.2.2.2.2
theorem eX10_clear_16 : (decode cX10_clear 29 = .ok (.getfield 58, 3)) ∧ (decode cX10_clear 32 = .ok (.getfield 209, 3)) ∧ (decode cX10_clear 35 = .ok (.iload_n 1, 1)) ∧ (decode cX10_clear 36 = .ok (.iconst 0, 1)) ∧ (decode cX10_clear 37 = .ok (.iastore, 1)) ∧ (decode cX10_clear 38 = .ok (.aload_n 0, 1)) ∧ (decode cX10_clear 39 = .ok (.iload_n 2, 1)) ∧ (decode cX10_clear 40 = .ok (.invokevirtual 97, 3)) := by decide +kernel
theorem dX10_clear_29 : decode cX10_clear 29 = .ok (.getfield 58, 3) := eX10_clear_16.1
theorem dX10_clear_32 : decode cX10_clear 32 = .ok (.getfield 209, 3) := eX10_clear_16.2.1
theorem dX10_clear_35 : decode cX10_clear 35 = .ok (.iload_n 1, 1) := eX10_clear_16.2.2.1
theorem dX10_clear_36 : decode cX10_clear 36 = .ok (.iconst 0, 1) := eX10_clear_16.2.2.2.1
theorem dX10_clear_37 : decode cX10_clear 37 = .ok (.iastore, 1) := eX10_clear_16.2.2.2.2.1
theorem dX10_clear_38 : decode cX10_clear 38 = .ok (.aload_n 0, 1) := eX10_clear_16.2.2.2.2.2.1
theorem dX10_clear_39 : decode cX10_clear 39 = .ok (.iload_n 2, 1) := eX10_clear_16.2.2.2.2.2.2.1
theorem dX10_clear_40 : decode cX10_clear 40 = .ok (.invokevirtual 97, 3) := eX10_clear_16.2.2.2.2.2.2.2
theorem dX10_clear_43 : decode cX10_clear 43 = .ok (.ireturn, 1) := by decide +kernel
theorem eX10_row_0 : (decode cX10_row 0 = .ok (.iload_n 1, 1)) ∧ (decode cX10_row 1 = .ok (.iconst 0, 1)) ∧ (decode cX10_row 2 = .ok (.iconst 1, 1)) ∧ (decode cX10_row 3 = .ok (.invokestatic 93, 3)) ∧ (decode cX10_row 6 = .ok (.ifCond .eq 11, 3)) ∧ (decode cX10_row 9 = .ok (.iload 4, 2)) ∧ (decode cX10_row 11 = .ok (.invokestatic 212, 3)) ∧ (decode cX10_row 14 = .ok (.ifCond .ne 9, 3)) := by decide +kernel
theorem dX10_row_0 : decode cX10_row 0 = .ok (.iload_n 1, 1) := eX10_row_0.1
theorem dX10_row_1 : decode cX10_row 1 = .ok (.iconst 0, 1) := eX10_row_0.2.1
theorem dX10_row_2 : decode cX10_row 2 = .ok (.iconst 1, 1) := eX10_row_0.2.2.1
theorem dX10_row_3 : decode cX10_row 3 = .ok (.invokestatic 93, 3) := eX10_row_0.2.2.2.1
theorem dX10_row_6 : decode cX10_row 6 = .ok (.ifCond .eq 11, 3) := eX10_row_0.2.2.2.2.1
theorem dX10_row_9 : decode cX10_row 9 = .ok (.iload 4, 2) := eX10_row_0.2.2.2.2.2.1
theorem dX10_row_11 : decode cX10_row 11 = .ok (.invokestatic 212, 3) := eX10_row_0.2.2.2.2.2.2.1
theorem dX10_row_14 : decode cX10_row 14 = .ok (.ifCond .ne 9, 3) := eX10_row_0.2.2.2.2.2.2.2
theorem eX10_row_8 : (decode cX10_row 17 = .ok (.aload_n 0, 1)) ∧ (decode cX10_row 18 = .ok (.iconst (-1), 1)) ∧ (decode cX10_row 19 = .ok (.invokevirtual 97, 3)) ∧ (decode cX10_row 22 = .ok (.ireturn, 1)) ∧ (decode cX10_row 23 = .ok (.aload_n 0, 1)) ∧ (decode cX10_row 24 = .ok (.getfield 58, 3)) ∧ (decode cX10_row 27 = .ok (.iload_n 2, 1)) ∧ (decode cX10_row 28 = .ok (.invokevirtual 204, 3)) := by decide +kernel
theorem dX10_row_17 : decode cX10_row 17 = .ok (.aload_n 0, 1) := eX10_row_8.1
theorem dX10_row_18 : decode cX10_row 18 = .ok (.iconst (-1), 1) := eX10_row_8.2.1
theorem dX10_row_19 : decode cX10_row 19 = .ok (.invokevirtual 97, 3) := eX10_row_8.2.2.1
theorem dX10_row_22 : decode cX10_row 22 = .ok (.ireturn, 1) := eX10_row_8.2.2.2.1
theorem dX10_row_23 : decode cX10_row 23 = .ok (.aload_n 0, 1) := eX10_row_8.2.2.2.2.1
theorem dX10_row_24 : decode cX10_row 24 = .ok (.getfield 58, 3) := eX10_row_8.2.2.2.2.2.1
theorem dX10_row_27 : decode cX10_row 27 = .ok (.iload_n 2, 1) := eX10_row_8.2.2.2.2.2.2.1
theorem dX10_row_28 : decode cX10_row 28 = .ok (.invokevirtual 204, 3) := eX10_row_8.2.2.2.2.2.2.2
theorem eX10_row_16 : (decode cX10_row 31 = .ok (.ifCond .eq 14, 3)) ∧ (decode cX10_row 34 = .ok (.aload_n 0, 1)) ∧ (decode cX10_row 35 = .ok (.getfield 19, 3)) ∧ (decode cX10_row 38 = .ok (.iload_n 3, 1)) ∧ (decode cX10_row 39 = .ok (.invokevirtual 115, 3)) ∧ (decode cX10_row 42 = .ok (.ifCond .ne 10, 3)) ∧ (decode cX10_row 45 = .ok (.aload_n 0, 1)) ∧ (decode cX10_row 46 = .ok (.bipush (-2), 2)) := by decide +kernel
theorem dX10_row_31 : decode cX10_row 31 = .ok (.ifCond .eq 14, 3) := eX10_row_16.1
theorem dX10_row_34 : decode cX10_row 34 = .ok (.aload_n 0, 1) := eX10_row_16.2.1
theorem dX10_row_35 : decode cX10_row 35 = .ok (.getfield 19, 3) := eX10_row_16.2.2.1
theorem dX10_row_38 : decode cX10_row 38 = .ok (.iload_n 3, 1) := eX10_row_16.2.2.2.1
theorem dX10_row_39 : decode cX10_row 39 = .ok (.invokevirtual 115, 3) := eX10_row_16.2.2.2.2.1
theorem dX10_row_42 : decode cX10_row 42 = .ok (.ifCond .ne 10, 3) := eX10_row_16.2.2.2.2.2.1
theorem dX10_row_45 : decode cX10_row 45 = .ok (.aload_n 0, 1) := eX10_row_16.2.2.2.2.2.2.1
theorem dX10_row_46 : decode cX10_row 46 = .ok (.bipush (-2), 2) := eX10_row_16.2.2.2.2.2.2.2
theorem eX10_row_24 : (decode cX10_row 48 = .ok (.invokevirtual 97, 3)) ∧ (decode cX10_row 51 = .ok (.ireturn, 1)) ∧ (decode cX10_row 52 = .ok (.aload_n 0, 1)) ∧ (decode cX10_row 53 = .ok (.aload_n 0, 1)) ∧ (decode cX10_row 54 = .ok (.getfield 58, 3)) ∧ (decode cX10_row 57 = .ok (.iload_n 1, 1)) ∧ (decode cX10_row 58 = .ok (.iload_n 2, 1)) ∧ (decode cX10_row 59 = .ok (.iload_n 3, 1)) := by decide +kernel
theorem dX10_row_48 : decode cX10_row 48 = .ok (.invokevirtual 97, 3) := eX10_row_24.1
theorem dX10_row_51 : decode cX10_row 51 = .ok (.ireturn, 1) := eX10_row_24.2.1
theorem dX10_row_52 : decode cX10_row 52 = .ok (.aload_n 0, 1) := eX10_row_24.2.2.1
theorem dX10_row_53 : decode cX10_row 53 = .ok (.aload_n 0, 1) := eX10_row_24.2.2.2.1
theorem dX10_row_54 : decode cX10_row 54 = .ok (.getfield 58, 3) := eX10_row_24.2.2.2.2.1
theorem dX10_row_57 : decode cX10_row 57 = .ok (.iload_n 1, 1) := eX10_row_24.2.2.2.2.2.1
theorem dX10_row_58 : decode cX10_row 58 = .ok (.iload_n 2, 1) := eX10_row_24.2.2.2.2.2.2.1
theorem dX10_row_59 : decode cX10_row 59 = .ok (.iload_n 3, 1) := eX10_row_24.2.2.2.2.2.2.2
theorem eX10_row_32 : (decode cX10_row 60 = .ok (.iload 4, 2)) ∧ (decode cX10_row 62 = .ok (.invokevirtual 215, 3)) ∧ (decode cX10_row 65 = .ok (.invokevirtual 97, 3)) ∧ (decode cX10_row 68 = .ok (.ireturn, 1)) := by decide +kernel
theorem dX10_row_60 : decode cX10_row 60 = .ok (.iload 4, 2) := eX10_row_32.1
theorem dX10_row_62 : decode cX10_row 62 = .ok (.invokevirtual 215, 3) := eX10_row_32.2.1
theorem dX10_row_65 : decode cX10_row 65 = .ok (.invokevirtual 97, 3) := eX10_row_32.2.2.1
theorem dX10_row_68 : decode cX10_row 68 = .ok (.ireturn, 1) := eX10_row_32.2.2.2
theorem eX10_feed_0 : (decode cX10_feed 0 = .ok (.aload_n 0, 1)) ∧ (decode cX10_feed 1 = .ok (.getfield 72, 3)) ∧ (decode cX10_feed 4 = .ok (.bipush 20, 2)) ∧ (decode cX10_feed 6 = .ok (.invokevirtual 218, 3)) ∧ (decode cX10_feed 9 = .ok (.ifCond .ne 5, 3)) ∧ (decode cX10_feed 12 = .ok (.iconst (-1), 1)) ∧ (decode cX10_feed 13 = .ok (.ireturn, 1)) ∧ (decode cX10_feed 14 = .ok (.aload_n 0, 1)) := by decide +kernel
theorem dX10_feed_0 : decode cX10_feed 0 = .ok (.aload_n 0, 1) := eX10_feed_0.1
theorem dX10_feed_1 : decode cX10_feed 1 = .ok (.getfield 72, 3) := eX10_feed_0.2.1
theorem dX10_feed_4 : decode cX10_feed 4 = .ok (.bipush 20, 2) := eX10_feed_0.2.2.1
theorem dX10_feed_6 : decode cX10_feed 6 = .ok (.invokevirtual 218, 3) := eX10_feed_0.2.2.2.1
theorem dX10_feed_9 : decode cX10_feed 9 = .ok (.ifCond .ne 5, 3) := eX10_feed_0.2.2.2.2.1
theorem dX10_feed_12 : decode cX10_feed 12 = .ok (.iconst (-1), 1) := eX10_feed_0.2.2.2.2.2.1
theorem dX10_feed_13 : decode cX10_feed 13 = .ok (.ireturn, 1) := eX10_feed_0.2.2.2.2.2.2.1
theorem dX10_feed_14 : decode cX10_feed 14 = .ok (.aload_n 0, 1) := eX10_feed_0.2.2.2.2.2.2.2
theorem eX10_feed_8 : (decode cX10_feed 15 = .ok (.getfield 72, 3)) ∧ (decode cX10_feed 18 = .ok (.iload_n 1, 1)) ∧ (decode cX10_feed 19 = .ok (.invokevirtual 221, 3)) ∧ (decode cX10_feed 22 = .ok (.aload_n 0, 1)) ∧ (decode cX10_feed 23 = .ok (.getfield 72, 3)) ∧ (decode cX10_feed 26 = .ok (.iload_n 2, 1)) ∧ (decode cX10_feed 27 = .ok (.invokevirtual 221, 3)) ∧ (decode cX10_feed 30 = .ok (.aload_n 0, 1)) := by decide +kernel
theorem dX10_feed_15 : decode cX10_feed 15 = .ok (.getfield 72, 3) := eX10_feed_8.1
theorem dX10_feed_18 : decode cX10_feed 18 = .ok (.iload_n 1, 1) := eX10_feed_8.2.1
theorem dX10_feed_19 : decode cX10_feed 19 = .ok (.invokevirtual 221, 3) := eX10_feed_8.2.2.1
theorem dX10_feed_22 : decode cX10_feed 22 = .ok (.aload_n 0, 1) := eX10_feed_8.2.2.2.1
theorem dX10_feed_23 : decode cX10_feed 23 = .ok (.getfield 72, 3) := eX10_feed_8.2.2.2.2.1
theorem dX10_feed_26 : decode cX10_feed 26 = .ok (.iload_n 2, 1) := eX10_feed_8.2.2.2.2.2.1
theorem dX10_feed_27 : decode cX10_feed 27 = .ok (.invokevirtual 221, 3) := eX10_feed_8.2.2.2.2.2.2.1
theorem dX10_feed_30 : decode cX10_feed 30 = .ok (.aload_n 0, 1) := eX10_feed_8.2.2.2.2.2.2.2
theorem eX10_feed_16 : (decode cX10_feed 31 = .ok (.getfield 72, 3)) ∧ (decode cX10_feed 34 = .ok (.iload_n 3, 1)) ∧ (decode cX10_feed 35 = .ok (.invokevirtual 221, 3)) ∧ (decode cX10_feed 38 = .ok (.aload_n 0, 1)) ∧ (decode cX10_feed 39 = .ok (.getfield 72, 3)) ∧ (decode cX10_feed 42 = .ok (.iload 4, 2)) ∧ (decode cX10_feed 44 = .ok (.invokevirtual 221, 3)) ∧ (decode cX10_feed 47 = .ok (.aload_n 0, 1)) := by decide +kernel
theorem dX10_feed_31 : decode cX10_feed 31 = .ok (.getfield 72, 3) := eX10_feed_16.1
theorem dX10_feed_34 : decode cX10_feed 34 = .ok (.iload_n 3, 1) := eX10_feed_16.2.1
theorem dX10_feed_35 : decode cX10_feed 35 = .ok (.invokevirtual 221, 3) := eX10_feed_16.2.2.1
theorem dX10_feed_38 : decode cX10_feed 38 = .ok (.aload_n 0, 1) := eX10_feed_16.2.2.2.1
theorem dX10_feed_39 : decode cX10_feed 39 = .ok (.getfield 72, 3) := eX10_feed_16.2.2.2.2.1
theorem dX10_feed_42 : decode cX10_feed 42 = .ok (.iload 4, 2) := eX10_feed_16.2.2.2.2.2.1
theorem dX10_feed_44 : decode cX10_feed 44 = .ok (.invokevirtual 221, 3) := eX10_feed_16.2.2.2.2.2.2.1
theorem dX10_feed_47 : decode cX10_feed 47 = .ok (.aload_n 0, 1) := eX10_feed_16.2.2.2.2.2.2.2
theorem eX10_feed_24 : (decode cX10_feed 48 = .ok (.getfield 72, 3)) ∧ (decode cX10_feed 51 = .ok (.iload 5, 2)) ∧ (decode cX10_feed 53 = .ok (.invokevirtual 221, 3)) ∧ (decode cX10_feed 56 = .ok (.aload_n 0, 1)) ∧ (decode cX10_feed 57 = .ok (.getfield 72, 3)) ∧ (decode cX10_feed 60 = .ok (.getfield 225, 3)) ∧ (decode cX10_feed 63 = .ok (.ireturn, 1)) := by decide +kernel
theorem dX10_feed_48 : decode cX10_feed 48 = .ok (.getfield 72, 3) := eX10_feed_24.1
theorem dX10_feed_51 : decode cX10_feed 51 = .ok (.iload 5, 2) := eX10_feed_24.2.1
theorem dX10_feed_53 : decode cX10_feed 53 = .ok (.invokevirtual 221, 3) := eX10_feed_24.2.2.1
theorem dX10_feed_56 : decode cX10_feed 56 = .ok (.aload_n 0, 1) := eX10_feed_24.2.2.2.1
theorem dX10_feed_57 : decode cX10_feed 57 = .ok (.getfield 72, 3) := eX10_feed_24.2.2.2.2.1
theorem dX10_feed_60 : decode cX10_feed 60 = .ok (.getfield 225, 3) := eX10_feed_24.2.2.2.2.2.1
theorem dX10_feed_63 : decode cX10_feed 63 = .ok (.ireturn, 1) := eX10_feed_24.2.2.2.2.2.2
theorem eX10_end_0 : (decode cX10_end 0 = .ok (.iload_n 1, 1)) ∧ (decode cX10_end 1 = .ok (.iconst 0, 1)) ∧ (decode cX10_end 2 = .ok (.aload_n 0, 1)) ∧ (decode cX10_end 3 = .ok (.getfield 72, 3)) ∧ (decode cX10_end 6 = .ok (.getfield 225, 3)) ∧ (decode cX10_end 9 = .ok (.invokestatic 93, 3)) ∧ (decode cX10_end 12 = .ok (.ifCond .ne 5, 3)) ∧ (decode cX10_end 15 = .ok (.iconst (-1), 1)) := by decide +kernel
theorem dX10_end_0 : decode cX10_end 0 = .ok (.iload_n 1, 1) := eX10_end_0.1
theorem dX10_end_1 : decode cX10_end 1 = .ok (.iconst 0, 1) := eX10_end_0.2.1
theorem dX10_end_2 : decode cX10_end 2 = .ok (.aload_n 0, 1) := eX10_end_0.2.2.1
theorem dX10_end_3 : decode cX10_end 3 = .ok (.getfield 72, 3) := eX10_end_0.2.2.2.1
theorem dX10_end_6 : decode cX10_end 6 = .ok (.getfield 225, 3) := eX10_end_0.2.2.2.2.1
theorem dX10_end_9 : decode cX10_end 9 = .ok (.invokestatic 93, 3) := eX10_end_0.2.2.2.2.2.1
theorem dX10_end_12 : decode cX10_end 12 = .ok (.ifCond .ne 5, 3) := eX10_end_0.2.2.2.2.2.2.1
theorem dX10_end_15 : decode cX10_end 15 = .ok (.iconst (-1), 1) := eX10_end_0.2.2.2.2.2.2.2
theorem eX10_end_8 : (decode cX10_end 16 = .ok (.ireturn, 1)) ∧ (decode cX10_end 17 = .ok (.aload_n 0, 1)) ∧ (decode cX10_end 18 = .ok (.getfield 72, 3)) ∧ (decode cX10_end 21 = .ok (.iload_n 1, 1)) ∧ (decode cX10_end 22 = .ok (.putfield 225, 3)) ∧ (decode cX10_end 25 = .ok (.iload_n 1, 1)) ∧ (decode cX10_end 26 = .ok (.ireturn, 1)) := by decide +kernel
theorem dX10_end_16 : decode cX10_end 16 = .ok (.ireturn, 1) := eX10_end_8.1
theorem dX10_end_17 : decode cX10_end 17 = .ok (.aload_n 0, 1) := eX10_end_8.2.1
theorem dX10_end_18 : decode cX10_end 18 = .ok (.getfield 72, 3) := eX10_end_8.2.2.1
theorem dX10_end_21 : decode cX10_end 21 = .ok (.iload_n 1, 1) := eX10_end_8.2.2.2.1
theorem dX10_end_22 : decode cX10_end 22 = .ok (.putfield 225, 3) := eX10_end_8.2.2.2.2.1
theorem dX10_end_25 : decode cX10_end 25 = .ok (.iload_n 1, 1) := eX10_end_8.2.2.2.2.2.1
theorem dX10_end_26 : decode cX10_end 26 = .ok (.ireturn, 1) := eX10_end_8.2.2.2.2.2.2
theorem eX10_rules_0 : (decode cX10_rules 0 = .ok (.aload_n 0, 1)) ∧ (decode cX10_rules 1 = .ok (.getfield 72, 3)) ∧ (decode cX10_rules 4 = .ok (.invokevirtual 228, 3)) ∧ (decode cX10_rules 7 = .ok (.istore_n 1, 1)) ∧ (decode cX10_rules 8 = .ok (.aload_n 0, 1)) ∧ (decode cX10_rules 9 = .ok (.getfield 72, 3)) ∧ (decode cX10_rules 12 = .ok (.iconst 0, 1)) ∧ (decode cX10_rules 13 = .ok (.putfield 225, 3)) := by decide +kernel
theorem dX10_rules_0 : decode cX10_rules 0 = .ok (.aload_n 0, 1) := eX10_rules_0.1
theorem dX10_rules_1 : decode cX10_rules 1 = .ok (.getfield 72, 3) := eX10_rules_0.2.1
theorem dX10_rules_4 : decode cX10_rules 4 = .ok (.invokevirtual 228, 3) := eX10_rules_0.2.2.1
theorem dX10_rules_7 : decode cX10_rules 7 = .ok (.istore_n 1, 1) := eX10_rules_0.2.2.2.1
theorem dX10_rules_8 : decode cX10_rules 8 = .ok (.aload_n 0, 1) := eX10_rules_0.2.2.2.2.1
theorem dX10_rules_9 : decode cX10_rules 9 = .ok (.getfield 72, 3) := eX10_rules_0.2.2.2.2.2.1
theorem dX10_rules_12 : decode cX10_rules 12 = .ok (.iconst 0, 1) := eX10_rules_0.2.2.2.2.2.2.1
theorem dX10_rules_13 : decode cX10_rules 13 = .ok (.putfield 225, 3) := eX10_rules_0.2.2.2.2.2.2.2
theorem eX10_rules_8 : (decode cX10_rules 16 = .ok (.iload_n 1, 1)) ∧ (decode cX10_rules 17 = .ok (.ifCond .ne 10, 3)) ∧ (decode cX10_rules 20 = .ok (.aload_n 0, 1)) ∧ (decode cX10_rules 21 = .ok (.bipush (-6), 2)) ∧ (decode cX10_rules 23 = .ok (.invokevirtual 97, 3)) ∧ (decode cX10_rules 26 = .ok (.ireturn, 1)) ∧ (decode cX10_rules 27 = .ok (.aload_n 0, 1)) ∧ (decode cX10_rules 28 = .ok (.getfield 65, 3)) := by decide +kernel
theorem dX10_rules_16 : decode cX10_rules 16 = .ok (.iload_n 1, 1) := eX10_rules_8.1
theorem dX10_rules_17 : decode cX10_rules 17 = .ok (.ifCond .ne 10, 3) := eX10_rules_8.2.1
theorem dX10_rules_20 : decode cX10_rules 20 = .ok (.aload_n 0, 1) := eX10_rules_8.2.2.1
theorem dX10_rules_21 : decode cX10_rules 21 = .ok (.bipush (-6), 2) := eX10_rules_8.2.2.2.1
theorem dX10_rules_23 : decode cX10_rules 23 = .ok (.invokevirtual 97, 3) := eX10_rules_8.2.2.2.2.1
theorem dX10_rules_26 : decode cX10_rules 26 = .ok (.ireturn, 1) := eX10_rules_8.2.2.2.2.2.1
theorem dX10_rules_27 : decode cX10_rules 27 = .ok (.aload_n 0, 1) := eX10_rules_8.2.2.2.2.2.2.1
theorem dX10_rules_28 : decode cX10_rules 28 = .ok (.getfield 65, 3) := eX10_rules_8.2.2.2.2.2.2.2
theorem eX10_rules_16 : (decode cX10_rules 31 = .ok (.aload_n 0, 1)) ∧ (decode cX10_rules 32 = .ok (.getfield 72, 3)) ∧ (decode cX10_rules 35 = .ok (.getfield 232, 3)) ∧ (decode cX10_rules 38 = .ok (.invokevirtual 235, 3)) ∧ (decode cX10_rules 41 = .ok (.aload_n 0, 1)) ∧ (decode cX10_rules 42 = .ok (.iconst 0, 1)) ∧ (decode cX10_rules 43 = .ok (.invokevirtual 97, 3)) ∧ (decode cX10_rules 46 = .ok (.ireturn, 1)) := by decide +kernel
theorem dX10_rules_31 : decode cX10_rules 31 = .ok (.aload_n 0, 1) := eX10_rules_16.1
theorem dX10_rules_32 : decode cX10_rules 32 = .ok (.getfield 72, 3) := eX10_rules_16.2.1
theorem dX10_rules_35 : decode cX10_rules 35 = .ok (.getfield 232, 3) := eX10_rules_16.2.2.1
theorem dX10_rules_38 : decode cX10_rules 38 = .ok (.invokevirtual 235, 3) := eX10_rules_16.2.2.2.1
theorem dX10_rules_41 : decode cX10_rules 41 = .ok (.aload_n 0, 1) := eX10_rules_16.2.2.2.2.1
theorem dX10_rules_42 : decode cX10_rules 42 = .ok (.iconst 0, 1) := eX10_rules_16.2.2.2.2.2.1
theorem dX10_rules_43 : decode cX10_rules 43 = .ok (.invokevirtual 97, 3) := eX10_rules_16.2.2.2.2.2.2.1
theorem dX10_rules_46 : decode cX10_rules 46 = .ok (.ireturn, 1) := eX10_rules_16.2.2.2.2.2.2.2
theorem eX10_fault_0 : (decode cX10_fault 0 = .ok (.aload_n 0, 1)) ∧ (decode cX10_fault 1 = .ok (.getfield 72, 3)) ∧ (decode cX10_fault 4 = .ok (.getfield 239, 3)) ∧ (decode cX10_fault 7 = .ok (.ireturn, 1)) := by decide +kernel
theorem dX10_fault_0 : decode cX10_fault 0 = .ok (.aload_n 0, 1) := eX10_fault_0.1
theorem dX10_fault_1 : decode cX10_fault 1 = .ok (.getfield 72, 3) := eX10_fault_0.2.1
theorem dX10_fault_4 : decode cX10_fault 4 = .ok (.getfield 239, 3) := eX10_fault_0.2.2.1
theorem dX10_fault_7 : decode cX10_fault 7 = .ok (.ireturn, 1) := eX10_fault_0.2.2.2
theorem eX10_counts_0 : (decode cX10_counts 0 = .ok (.iload_n 3, 1)) ∧ (decode cX10_counts 1 = .ok (.invokestatic 212, 3)) ∧ (decode cX10_counts 4 = .ok (.ifCond .ne 5, 3)) ∧ (decode cX10_counts 7 = .ok (.iconst (-1), 1)) ∧ (decode cX10_counts 8 = .ok (.ireturn, 1)) ∧ (decode cX10_counts 9 = .ok (.aload_n 0, 1)) ∧ (decode cX10_counts 10 = .ok (.getfield 58, 3)) ∧ (decode cX10_counts 13 = .ok (.iload_n 1, 1)) := by decide +kernel
theorem dX10_counts_0 : decode cX10_counts 0 = .ok (.iload_n 3, 1) := eX10_counts_0.1
theorem dX10_counts_1 : decode cX10_counts 1 = .ok (.invokestatic 212, 3) := eX10_counts_0.2.1
theorem dX10_counts_4 : decode cX10_counts 4 = .ok (.ifCond .ne 5, 3) := eX10_counts_0.2.2.1
theorem dX10_counts_7 : decode cX10_counts 7 = .ok (.iconst (-1), 1) := eX10_counts_0.2.2.2.1
theorem dX10_counts_8 : decode cX10_counts 8 = .ok (.ireturn, 1) := eX10_counts_0.2.2.2.2.1
theorem dX10_counts_9 : decode cX10_counts 9 = .ok (.aload_n 0, 1) := eX10_counts_0.2.2.2.2.2.1
theorem dX10_counts_10 : decode cX10_counts 10 = .ok (.getfield 58, 3) := eX10_counts_0.2.2.2.2.2.2.1
theorem dX10_counts_13 : decode cX10_counts 13 = .ok (.iload_n 1, 1) := eX10_counts_0.2.2.2.2.2.2.2
theorem eX10_counts_8 : (decode cX10_counts 14 = .ok (.invokevirtual 204, 3)) ∧ (decode cX10_counts 17 = .ok (.ifCond .eq 14, 3)) ∧ (decode cX10_counts 20 = .ok (.aload_n 0, 1)) ∧ (decode cX10_counts 21 = .ok (.getfield 19, 3)) ∧ (decode cX10_counts 24 = .ok (.iload_n 2, 1)) ∧ (decode cX10_counts 25 = .ok (.invokevirtual 115, 3)) ∧ (decode cX10_counts 28 = .ok (.ifCond .ne 6, 3)) ∧ (decode cX10_counts 31 = .ok (.bipush (-2), 2)) := by decide +kernel
theorem dX10_counts_14 : decode cX10_counts 14 = .ok (.invokevirtual 204, 3) := eX10_counts_8.1
theorem dX10_counts_17 : decode cX10_counts 17 = .ok (.ifCond .eq 14, 3) := eX10_counts_8.2.1
theorem dX10_counts_20 : decode cX10_counts 20 = .ok (.aload_n 0, 1) := eX10_counts_8.2.2.1
theorem dX10_counts_21 : decode cX10_counts 21 = .ok (.getfield 19, 3) := eX10_counts_8.2.2.2.1
theorem dX10_counts_24 : decode cX10_counts 24 = .ok (.iload_n 2, 1) := eX10_counts_8.2.2.2.2.1
theorem dX10_counts_25 : decode cX10_counts 25 = .ok (.invokevirtual 115, 3) := eX10_counts_8.2.2.2.2.2.1
theorem dX10_counts_28 : decode cX10_counts 28 = .ok (.ifCond .ne 6, 3) := eX10_counts_8.2.2.2.2.2.2.1
theorem dX10_counts_31 : decode cX10_counts 31 = .ok (.bipush (-2), 2) := eX10_counts_8.2.2.2.2.2.2.2
theorem eX10_counts_16 : (decode cX10_counts 33 = .ok (.ireturn, 1)) ∧ (decode cX10_counts 34 = .ok (.aload_n 0, 1)) ∧ (decode cX10_counts 35 = .ok (.getfield 65, 3)) ∧ (decode cX10_counts 38 = .ok (.getfield 242, 3)) ∧ (decode cX10_counts 41 = .ok (.ifCond .ne 6, 3)) ∧ (decode cX10_counts 44 = .ok (.bipush (-6), 2)) ∧ (decode cX10_counts 46 = .ok (.ireturn, 1)) ∧ (decode cX10_counts 47 = .ok (.aload_n 0, 1)) := by decide +kernel
theorem dX10_counts_33 : decode cX10_counts 33 = .ok (.ireturn, 1) := eX10_counts_16.1
theorem dX10_counts_34 : decode cX10_counts 34 = .ok (.aload_n 0, 1) := eX10_counts_16.2.1
theorem dX10_counts_35 : decode cX10_counts 35 = .ok (.getfield 65, 3) := eX10_counts_16.2.2.1
theorem dX10_counts_38 : decode cX10_counts 38 = .ok (.getfield 242, 3) := eX10_counts_16.2.2.2.1
theorem dX10_counts_41 : decode cX10_counts 41 = .ok (.ifCond .ne 6, 3) := eX10_counts_16.2.2.2.2.1
theorem dX10_counts_44 : decode cX10_counts 44 = .ok (.bipush (-6), 2) := eX10_counts_16.2.2.2.2.2.1
theorem dX10_counts_46 : decode cX10_counts 46 = .ok (.ireturn, 1) := eX10_counts_16.2.2.2.2.2.2.1
theorem dX10_counts_47 : decode cX10_counts 47 = .ok (.aload_n 0, 1) := eX10_counts_16.2.2.2.2.2.2.2
theorem eX10_counts_24 : (decode cX10_counts 48 = .ok (.getfield 58, 3)) ∧ (decode cX10_counts 51 = .ok (.iload_n 1, 1)) ∧ (decode cX10_counts 52 = .ok (.iload_n 2, 1)) ∧ (decode cX10_counts 53 = .ok (.invokevirtual 246, 3)) ∧ (decode cX10_counts 56 = .ok (.ifCond .eq 24, 3)) ∧ (decode cX10_counts 59 = .ok (.aload_n 0, 1)) ∧ (decode cX10_counts 60 = .ok (.getfield 58, 3)) ∧ (decode cX10_counts 63 = .ok (.aload_n 0, 1)) := by decide +kernel
theorem dX10_counts_48 : decode cX10_counts 48 = .ok (.getfield 58, 3) := eX10_counts_24.1
theorem dX10_counts_51 : decode cX10_counts 51 = .ok (.iload_n 1, 1) := eX10_counts_24.2.1
theorem dX10_counts_52 : decode cX10_counts 52 = .ok (.iload_n 2, 1) := eX10_counts_24.2.2.1
theorem dX10_counts_53 : decode cX10_counts 53 = .ok (.invokevirtual 246, 3) := eX10_counts_24.2.2.2.1
theorem dX10_counts_56 : decode cX10_counts 56 = .ok (.ifCond .eq 24, 3) := eX10_counts_24.2.2.2.2.1
theorem dX10_counts_59 : decode cX10_counts 59 = .ok (.aload_n 0, 1) := eX10_counts_24.2.2.2.2.2.1
theorem dX10_counts_60 : decode cX10_counts 60 = .ok (.getfield 58, 3) := eX10_counts_24.2.2.2.2.2.2.1
theorem dX10_counts_63 : decode cX10_counts 63 = .ok (.aload_n 0, 1) := eX10_counts_24.2.2.2.2.2.2.2
theorem eX10_counts_32 : (decode cX10_counts 64 = .ok (.getfield 65, 3)) ∧ (decode cX10_counts 67 = .ok (.iload_n 1, 1)) ∧ (decode cX10_counts 68 = .ok (.iload_n 2, 1)) ∧ (decode cX10_counts 69 = .ok (.iload_n 3, 1)) ∧ (decode cX10_counts 70 = .ok (.invokevirtual 250, 3)) ∧ (decode cX10_counts 73 = .ok (.ifCond .eq 7, 3)) ∧ (decode cX10_counts 76 = .ok (.iconst 1, 1)) ∧ (decode cX10_counts 77 = .ok (.goto 4, 3)) := by decide +kernel
theorem dX10_counts_64 : decode cX10_counts 64 = .ok (.getfield 65, 3) := eX10_counts_32.1
theorem dX10_counts_67 : decode cX10_counts 67 = .ok (.iload_n 1, 1) := eX10_counts_32.2.1
theorem dX10_counts_68 : decode cX10_counts 68 = .ok (.iload_n 2, 1) := eX10_counts_32.2.2.1
theorem dX10_counts_69 : decode cX10_counts 69 = .ok (.iload_n 3, 1) := eX10_counts_32.2.2.2.1
theorem dX10_counts_70 : decode cX10_counts 70 = .ok (.invokevirtual 250, 3) := eX10_counts_32.2.2.2.2.1
theorem dX10_counts_73 : decode cX10_counts 73 = .ok (.ifCond .eq 7, 3) := eX10_counts_32.2.2.2.2.2.1
theorem dX10_counts_76 : decode cX10_counts 76 = .ok (.iconst 1, 1) := eX10_counts_32.2.2.2.2.2.2.1
theorem dX10_counts_77 : decode cX10_counts 77 = .ok (.goto 4, 3) := eX10_counts_32.2.2.2.2.2.2.2
theorem eX10_counts_40 : (decode cX10_counts 80 = .ok (.iconst 0, 1)) ∧ (decode cX10_counts 81 = .ok (.ireturn, 1)) := by decide +kernel
theorem dX10_counts_80 : decode cX10_counts 80 = .ok (.iconst 0, 1) := eX10_counts_40.1
theorem dX10_counts_81 : decode cX10_counts 81 = .ok (.ireturn, 1) := eX10_counts_40.2
theorem eX10_prize_0 : (decode cX10_prize 0 = .ok (.iload_n 1, 1)) ∧ (decode cX10_prize 1 = .ok (.invokestatic 212, 3)) ∧ (decode cX10_prize 4 = .ok (.ifCond .ne 9, 3)) ∧ (decode cX10_prize 7 = .ok (.aload_n 0, 1)) ∧ (decode cX10_prize 8 = .ok (.iconst (-1), 1)) ∧ (decode cX10_prize 9 = .ok (.invokevirtual 97, 3)) ∧ (decode cX10_prize 12 = .ok (.ireturn, 1)) ∧ (decode cX10_prize 13 = .ok (.aload_n 0, 1)) := by decide +kernel
theorem dX10_prize_0 : decode cX10_prize 0 = .ok (.iload_n 1, 1) := eX10_prize_0.1
theorem dX10_prize_1 : decode cX10_prize 1 = .ok (.invokestatic 212, 3) := eX10_prize_0.2.1
theorem dX10_prize_4 : decode cX10_prize 4 = .ok (.ifCond .ne 9, 3) := eX10_prize_0.2.2.1
theorem dX10_prize_7 : decode cX10_prize 7 = .ok (.aload_n 0, 1) := eX10_prize_0.2.2.2.1
theorem dX10_prize_8 : decode cX10_prize 8 = .ok (.iconst (-1), 1) := eX10_prize_0.2.2.2.2.1
theorem dX10_prize_9 : decode cX10_prize 9 = .ok (.invokevirtual 97, 3) := eX10_prize_0.2.2.2.2.2.1
theorem dX10_prize_12 : decode cX10_prize 12 = .ok (.ireturn, 1) := eX10_prize_0.2.2.2.2.2.2.1
theorem dX10_prize_13 : decode cX10_prize 13 = .ok (.aload_n 0, 1) := eX10_prize_0.2.2.2.2.2.2.2
theorem eX10_prize_8 : (decode cX10_prize 14 = .ok (.getfield 65, 3)) ∧ (decode cX10_prize 17 = .ok (.getfield 242, 3)) ∧ (decode cX10_prize 20 = .ok (.ifCond .ne 10, 3)) ∧ (decode cX10_prize 23 = .ok (.aload_n 0, 1)) ∧ (decode cX10_prize 24 = .ok (.bipush (-6), 2)) ∧ (decode cX10_prize 26 = .ok (.invokevirtual 97, 3)) ∧ (decode cX10_prize 29 = .ok (.ireturn, 1)) ∧ (decode cX10_prize 30 = .ok (.aload_n 0, 1)) := by decide +kernel
theorem dX10_prize_14 : decode cX10_prize 14 = .ok (.getfield 65, 3) := eX10_prize_8.1
theorem dX10_prize_17 : decode cX10_prize 17 = .ok (.getfield 242, 3) := eX10_prize_8.2.1
theorem dX10_prize_20 : decode cX10_prize 20 = .ok (.ifCond .ne 10, 3) := eX10_prize_8.2.2.1
theorem dX10_prize_23 : decode cX10_prize 23 = .ok (.aload_n 0, 1) := eX10_prize_8.2.2.2.1
theorem dX10_prize_24 : decode cX10_prize 24 = .ok (.bipush (-6), 2) := eX10_prize_8.2.2.2.2.1
theorem dX10_prize_26 : decode cX10_prize 26 = .ok (.invokevirtual 97, 3) := eX10_prize_8.2.2.2.2.2.1
theorem dX10_prize_29 : decode cX10_prize 29 = .ok (.ireturn, 1) := eX10_prize_8.2.2.2.2.2.2.1
theorem dX10_prize_30 : decode cX10_prize 30 = .ok (.aload_n 0, 1) := eX10_prize_8.2.2.2.2.2.2.2
theorem eX10_prize_16 : (decode cX10_prize 31 = .ok (.getfield 81, 3)) ∧ (decode cX10_prize 34 = .ok (.iload_n 1, 1)) ∧ (decode cX10_prize 35 = .ok (.invokevirtual 254, 3)) ∧ (decode cX10_prize 38 = .ok (.istore_n 2, 1)) ∧ (decode cX10_prize 39 = .ok (.aload_n 0, 1)) ∧ (decode cX10_prize 40 = .ok (.iload_n 2, 1)) ∧ (decode cX10_prize 41 = .ok (.iconst (-1), 1)) ∧ (decode cX10_prize 42 = .ok (.if_icmp .ne 8, 3)) := by decide +kernel
theorem dX10_prize_31 : decode cX10_prize 31 = .ok (.getfield 81, 3) := eX10_prize_16.1
theorem dX10_prize_34 : decode cX10_prize 34 = .ok (.iload_n 1, 1) := eX10_prize_16.2.1
theorem dX10_prize_35 : decode cX10_prize 35 = .ok (.invokevirtual 254, 3) := eX10_prize_16.2.2.1
theorem dX10_prize_38 : decode cX10_prize 38 = .ok (.istore_n 2, 1) := eX10_prize_16.2.2.2.1
theorem dX10_prize_39 : decode cX10_prize 39 = .ok (.aload_n 0, 1) := eX10_prize_16.2.2.2.2.1
theorem dX10_prize_40 : decode cX10_prize 40 = .ok (.iload_n 2, 1) := eX10_prize_16.2.2.2.2.2.1
theorem dX10_prize_41 : decode cX10_prize 41 = .ok (.iconst (-1), 1) := eX10_prize_16.2.2.2.2.2.2.1
theorem dX10_prize_42 : decode cX10_prize 42 = .ok (.if_icmp .ne 8, 3) := eX10_prize_16.2.2.2.2.2.2.2
theorem eX10_prize_24 : (decode cX10_prize 45 = .ok (.bipush (-6), 2)) ∧ (decode cX10_prize 47 = .ok (.goto 4, 3)) ∧ (decode cX10_prize 50 = .ok (.iload_n 2, 1)) ∧ (decode cX10_prize 51 = .ok (.invokevirtual 97, 3)) ∧ (decode cX10_prize 54 = .ok (.ireturn, 1)) := by decide +kernel
theorem dX10_prize_45 : decode cX10_prize 45 = .ok (.bipush (-6), 2) := eX10_prize_24.1
theorem dX10_prize_47 : decode cX10_prize 47 = .ok (.goto 4, 3) := eX10_prize_24.2.1
theorem dX10_prize_50 : decode cX10_prize 50 = .ok (.iload_n 2, 1) := eX10_prize_24.2.2.1
theorem dX10_prize_51 : decode cX10_prize 51 = .ok (.invokevirtual 97, 3) := eX10_prize_24.2.2.2.1
theorem dX10_prize_54 : decode cX10_prize 54 = .ok (.ireturn, 1) := eX10_prize_24.2.2.2.2
theorem eX10_round_0 : (decode cX10_round 0 = .ok (.iload_n 1, 1)) ∧ (decode cX10_round 1 = .ok (.iconst (-1), 1)) ∧ (decode cX10_round 2 = .ok (.if_icmp .ne 11, 3)) ∧ (decode cX10_round 5 = .ok (.aload_n 0, 1)) ∧ (decode cX10_round 6 = .ok (.getfield 81, 3)) ∧ (decode cX10_round 9 = .ok (.getfield 257, 3)) ∧ (decode cX10_round 12 = .ok (.ireturn, 1)) ∧ (decode cX10_round 13 = .ok (.aload_n 0, 1)) := by decide +kernel
theorem dX10_round_0 : decode cX10_round 0 = .ok (.iload_n 1, 1) := eX10_round_0.1
theorem dX10_round_1 : decode cX10_round 1 = .ok (.iconst (-1), 1) := eX10_round_0.2.1
theorem dX10_round_2 : decode cX10_round 2 = .ok (.if_icmp .ne 11, 3) := eX10_round_0.2.2.1
theorem dX10_round_5 : decode cX10_round 5 = .ok (.aload_n 0, 1) := eX10_round_0.2.2.2.1
theorem dX10_round_6 : decode cX10_round 6 = .ok (.getfield 81, 3) := eX10_round_0.2.2.2.2.1
theorem dX10_round_9 : decode cX10_round 9 = .ok (.getfield 257, 3) := eX10_round_0.2.2.2.2.2.1
theorem dX10_round_12 : decode cX10_round 12 = .ok (.ireturn, 1) := eX10_round_0.2.2.2.2.2.2.1
theorem dX10_round_13 : decode cX10_round 13 = .ok (.aload_n 0, 1) := eX10_round_0.2.2.2.2.2.2.2
theorem eX10_round_8 : (decode cX10_round 14 = .ok (.getfield 81, 3)) ∧ (decode cX10_round 17 = .ok (.iload_n 1, 1)) ∧ (decode cX10_round 18 = .ok (.iload_n 2, 1)) ∧ (decode cX10_round 19 = .ok (.invokevirtual 260, 3)) ∧ (decode cX10_round 22 = .ok (.ireturn, 1)) := by decide +kernel
theorem dX10_round_14 : decode cX10_round 14 = .ok (.getfield 81, 3) := eX10_round_8.1
theorem dX10_round_17 : decode cX10_round 17 = .ok (.iload_n 1, 1) := eX10_round_8.2.1
theorem dX10_round_18 : decode cX10_round 18 = .ok (.iload_n 2, 1) := eX10_round_8.2.2.1
theorem dX10_round_19 : decode cX10_round 19 = .ok (.invokevirtual 260, 3) := eX10_round_8.2.2.2.1
theorem dX10_round_22 : decode cX10_round 22 = .ok (.ireturn, 1) := eX10_round_8.2.2.2.2
theorem eX10_count_0 : (decode cX10_count 0 = .ok (.iload_n 1, 1)) ∧ (decode cX10_count 1 = .ok (.tableswitch 137 0 8 #[51, 59, 67, 75, 83, 91, 99, 107, 115], 51)) ∧ (decode cX10_count 52 = .ok (.aload_n 0, 1)) ∧ (decode cX10_count 53 = .ok (.getfield 10, 3)) ∧ (decode cX10_count 56 = .ok (.getfield 263, 3)) ∧ (decode cX10_count 59 = .ok (.ireturn, 1)) ∧ (decode cX10_count 60 = .ok (.aload_n 0, 1)) ∧ (decode cX10_count 61 = .ok (.getfield 19, 3)) := by decide +kernel
theorem dX10_count_0 : decode cX10_count 0 = .ok (.iload_n 1, 1) := eX10_count_0.1
theorem dX10_count_1 : decode cX10_count 1 = .ok (.tableswitch 137 0 8 #[51, 59, 67, 75, 83, 91, 99, 107, 115], 51) := eX10_count_0.2.1
theorem dX10_count_52 : decode cX10_count 52 = .ok (.aload_n 0, 1) := eX10_count_0.2.2.1
theorem dX10_count_53 : decode cX10_count 53 = .ok (.getfield 10, 3) := eX10_count_0.2.2.2.1
theorem dX10_count_56 : decode cX10_count 56 = .ok (.getfield 263, 3) := eX10_count_0.2.2.2.2.1
theorem dX10_count_59 : decode cX10_count 59 = .ok (.ireturn, 1) := eX10_count_0.2.2.2.2.2.1
theorem dX10_count_60 : decode cX10_count 60 = .ok (.aload_n 0, 1) := eX10_count_0.2.2.2.2.2.2.1
theorem dX10_count_61 : decode cX10_count 61 = .ok (.getfield 19, 3) := eX10_count_0.2.2.2.2.2.2.2
theorem eX10_count_8 : (decode cX10_count 64 = .ok (.getfield 266, 3)) ∧ (decode cX10_count 67 = .ok (.ireturn, 1)) ∧ (decode cX10_count 68 = .ok (.aload_n 0, 1)) ∧ (decode cX10_count 69 = .ok (.getfield 26, 3)) ∧ (decode cX10_count 72 = .ok (.invokevirtual 267, 3)) ∧ (decode cX10_count 75 = .ok (.ireturn, 1)) ∧ (decode cX10_count 76 = .ok (.aload_n 0, 1)) ∧ (decode cX10_count 77 = .ok (.getfield 26, 3)) := by decide +kernel
theorem dX10_count_64 : decode cX10_count 64 = .ok (.getfield 266, 3) := eX10_count_8.1
theorem dX10_count_67 : decode cX10_count 67 = .ok (.ireturn, 1) := eX10_count_8.2.1
theorem dX10_count_68 : decode cX10_count 68 = .ok (.aload_n 0, 1) := eX10_count_8.2.2.1
theorem dX10_count_69 : decode cX10_count 69 = .ok (.getfield 26, 3) := eX10_count_8.2.2.2.1
theorem dX10_count_72 : decode cX10_count 72 = .ok (.invokevirtual 267, 3) := eX10_count_8.2.2.2.2.1
theorem dX10_count_75 : decode cX10_count 75 = .ok (.ireturn, 1) := eX10_count_8.2.2.2.2.2.1
theorem dX10_count_76 : decode cX10_count 76 = .ok (.aload_n 0, 1) := eX10_count_8.2.2.2.2.2.2.1
theorem dX10_count_77 : decode cX10_count 77 = .ok (.getfield 26, 3) := eX10_count_8.2.2.2.2.2.2.2
theorem eX10_count_16 : (decode cX10_count 80 = .ok (.getfield 270, 3)) ∧ (decode cX10_count 83 = .ok (.ireturn, 1)) ∧ (decode cX10_count 84 = .ok (.aload_n 0, 1)) ∧ (decode cX10_count 85 = .ok (.getfield 58, 3)) ∧ (decode cX10_count 88 = .ok (.getfield 273, 3)) ∧ (decode cX10_count 91 = .ok (.ireturn, 1)) ∧ (decode cX10_count 92 = .ok (.aload_n 0, 1)) ∧ (decode cX10_count 93 = .ok (.getfield 58, 3)) := by decide +kernel
theorem dX10_count_80 : decode cX10_count 80 = .ok (.getfield 270, 3) := eX10_count_16.1
theorem dX10_count_83 : decode cX10_count 83 = .ok (.ireturn, 1) := eX10_count_16.2.1
theorem dX10_count_84 : decode cX10_count 84 = .ok (.aload_n 0, 1) := eX10_count_16.2.2.1
theorem dX10_count_85 : decode cX10_count 85 = .ok (.getfield 58, 3) := eX10_count_16.2.2.2.1
theorem dX10_count_88 : decode cX10_count 88 = .ok (.getfield 273, 3) := eX10_count_16.2.2.2.2.1
theorem dX10_count_91 : decode cX10_count 91 = .ok (.ireturn, 1) := eX10_count_16.2.2.2.2.2.1
theorem dX10_count_92 : decode cX10_count 92 = .ok (.aload_n 0, 1) := eX10_count_16.2.2.2.2.2.2.1
theorem dX10_count_93 : decode cX10_count 93 = .ok (.getfield 58, 3) := eX10_count_16.2.2.2.2.2.2.2
theorem eX10_count_24 : (decode cX10_count 96 = .ok (.getfield 274, 3)) ∧ (decode cX10_count 99 = .ok (.ireturn, 1)) ∧ (decode cX10_count 100 = .ok (.aload_n 0, 1)) ∧ (decode cX10_count 101 = .ok (.getfield 44, 3)) ∧ (decode cX10_count 104 = .ok (.getfield 277, 3)) ∧ (decode cX10_count 107 = .ok (.ireturn, 1)) ∧ (decode cX10_count 108 = .ok (.aload_n 0, 1)) ∧ (decode cX10_count 109 = .ok (.getfield 72, 3)) := by decide +kernel
theorem dX10_count_96 : decode cX10_count 96 = .ok (.getfield 274, 3) := eX10_count_24.1
theorem dX10_count_99 : decode cX10_count 99 = .ok (.ireturn, 1) := eX10_count_24.2.1
theorem dX10_count_100 : decode cX10_count 100 = .ok (.aload_n 0, 1) := eX10_count_24.2.2.1
theorem dX10_count_101 : decode cX10_count 101 = .ok (.getfield 44, 3) := eX10_count_24.2.2.2.1
theorem dX10_count_104 : decode cX10_count 104 = .ok (.getfield 277, 3) := eX10_count_24.2.2.2.2.1
theorem dX10_count_107 : decode cX10_count 107 = .ok (.ireturn, 1) := eX10_count_24.2.2.2.2.2.1
theorem dX10_count_108 : decode cX10_count 108 = .ok (.aload_n 0, 1) := eX10_count_24.2.2.2.2.2.2.1
theorem dX10_count_109 : decode cX10_count 109 = .ok (.getfield 72, 3) := eX10_count_24.2.2.2.2.2.2.2
theorem eX10_count_32 : (decode cX10_count 112 = .ok (.getfield 225, 3)) ∧ (decode cX10_count 115 = .ok (.ireturn, 1)) ∧ (decode cX10_count 116 = .ok (.aload_n 0, 1)) ∧ (decode cX10_count 117 = .ok (.getfield 65, 3)) ∧ (decode cX10_count 120 = .ok (.getfield 242, 3)) ∧ (decode cX10_count 123 = .ok (.ifCond .eq 13, 3)) ∧ (decode cX10_count 126 = .ok (.aload_n 0, 1)) ∧ (decode cX10_count 127 = .ok (.getfield 65, 3)) := by decide +kernel
theorem dX10_count_112 : decode cX10_count 112 = .ok (.getfield 225, 3) := eX10_count_32.1
theorem dX10_count_115 : decode cX10_count 115 = .ok (.ireturn, 1) := eX10_count_32.2.1
theorem dX10_count_116 : decode cX10_count 116 = .ok (.aload_n 0, 1) := eX10_count_32.2.2.1
theorem dX10_count_117 : decode cX10_count 117 = .ok (.getfield 65, 3) := eX10_count_32.2.2.2.1
theorem dX10_count_120 : decode cX10_count 120 = .ok (.getfield 242, 3) := eX10_count_32.2.2.2.2.1
theorem dX10_count_123 : decode cX10_count 123 = .ok (.ifCond .eq 13, 3) := eX10_count_32.2.2.2.2.2.1
theorem dX10_count_126 : decode cX10_count 126 = .ok (.aload_n 0, 1) := eX10_count_32.2.2.2.2.2.2.1
theorem dX10_count_127 : decode cX10_count 127 = .ok (.getfield 65, 3) := eX10_count_32.2.2.2.2.2.2.2
theorem eX10_count_40 : (decode cX10_count 130 = .ok (.getfield 280, 3)) ∧ (decode cX10_count 133 = .ok (.goto 4, 3)) ∧ (decode cX10_count 136 = .ok (.iconst (-1), 1)) ∧ (decode cX10_count 137 = .ok (.ireturn, 1)) ∧ (decode cX10_count 138 = .ok (.iconst (-1), 1)) ∧ (decode cX10_count 139 = .ok (.ireturn, 1)) := by decide +kernel
theorem dX10_count_130 : decode cX10_count 130 = .ok (.getfield 280, 3) := eX10_count_40.1
theorem dX10_count_133 : decode cX10_count 133 = .ok (.goto 4, 3) := eX10_count_40.2.1
theorem dX10_count_136 : decode cX10_count 136 = .ok (.iconst (-1), 1) := eX10_count_40.2.2.1
theorem dX10_count_137 : decode cX10_count 137 = .ok (.ireturn, 1) := eX10_count_40.2.2.2.1
theorem dX10_count_138 : decode cX10_count 138 = .ok (.iconst (-1), 1) := eX10_count_40.2.2.2.2.1
theorem dX10_count_139 : decode cX10_count 139 = .ok (.ireturn, 1) := eX10_count_40.2.2.2.2.2
theorem eX10_status_0 : (decode cX10_status 0 = .ok (.aload_n 0, 1)) ∧ (decode cX10_status 1 = .ok (.getfield 85, 3)) ∧ (decode cX10_status 4 = .ok (.ireturn, 1)) := by decide +kernel
theorem dX10_status_0 : decode cX10_status 0 = .ok (.aload_n 0, 1) := eX10_status_0.1
theorem dX10_status_1 : decode cX10_status 1 = .ok (.getfield 85, 3) := eX10_status_0.2.1
theorem dX10_status_4 : decode cX10_status 4 = .ok (.ireturn, 1) := eX10_status_0.2.2
theorem eX10_told_0 : (decode cX10_told 0 = .ok (.aload_n 0, 1)) ∧ (decode cX10_told 1 = .ok (.iload_n 1, 1)) ∧ (decode cX10_told 2 = .ok (.iconst 0, 1)) ∧ (decode cX10_told 3 = .ok (.invokestatic 283, 3)) ∧ (decode cX10_told 6 = .ok (.putfield 85, 3)) ∧ (decode cX10_told 9 = .ok (.iload_n 1, 1)) ∧ (decode cX10_told 10 = .ok (.ireturn, 1)) := by decide +kernel
theorem dX10_told_0 : decode cX10_told 0 = .ok (.aload_n 0, 1) := eX10_told_0.1
theorem dX10_told_1 : decode cX10_told 1 = .ok (.iload_n 1, 1) := eX10_told_0.2.1
theorem dX10_told_2 : decode cX10_told 2 = .ok (.iconst 0, 1) := eX10_told_0.2.2.1
theorem dX10_told_3 : decode cX10_told 3 = .ok (.invokestatic 283, 3) := eX10_told_0.2.2.2.1
theorem dX10_told_6 : decode cX10_told 6 = .ok (.putfield 85, 3) := eX10_told_0.2.2.2.2.1
theorem dX10_told_9 : decode cX10_told 9 = .ok (.iload_n 1, 1) := eX10_told_0.2.2.2.2.2.1
theorem dX10_told_10 : decode cX10_told 10 = .ok (.ireturn, 1) := eX10_told_0.2.2.2.2.2.2
theorem eX10_reasonAgainst_0 : (decode cX10_reasonAgainst 0 = .ok (.iload_n 3, 1)) ∧ (decode cX10_reasonAgainst 1 = .ok (.invokestatic 112, 3)) ∧ (decode cX10_reasonAgainst 4 = .ok (.ifCond .eq 13, 3)) ∧ (decode cX10_reasonAgainst 7 = .ok (.iload 4, 2)) ∧ (decode cX10_reasonAgainst 9 = .ok (.iconst 0, 1)) ∧ (decode cX10_reasonAgainst 10 = .ok (.iconst 2, 1)) ∧ (decode cX10_reasonAgainst 11 = .ok (.invokestatic 93, 3)) ∧ (decode cX10_reasonAgainst 14 = .ok (.ifCond .ne 5, 3)) := by decide +kernel
theorem dX10_reasonAgainst_0 : decode cX10_reasonAgainst 0 = .ok (.iload_n 3, 1) := eX10_reasonAgainst_0.1
theorem dX10_reasonAgainst_1 : decode cX10_reasonAgainst 1 = .ok (.invokestatic 112, 3) := eX10_reasonAgainst_0.2.1
theorem dX10_reasonAgainst_4 : decode cX10_reasonAgainst 4 = .ok (.ifCond .eq 13, 3) := eX10_reasonAgainst_0.2.2.1
theorem dX10_reasonAgainst_7 : decode cX10_reasonAgainst 7 = .ok (.iload 4, 2) := eX10_reasonAgainst_0.2.2.2.1
theorem dX10_reasonAgainst_9 : decode cX10_reasonAgainst 9 = .ok (.iconst 0, 1) := eX10_reasonAgainst_0.2.2.2.2.1
theorem dX10_reasonAgainst_10 : decode cX10_reasonAgainst 10 = .ok (.iconst 2, 1) := eX10_reasonAgainst_0.2.2.2.2.2.1
theorem dX10_reasonAgainst_11 : decode cX10_reasonAgainst 11 = .ok (.invokestatic 93, 3) := eX10_reasonAgainst_0.2.2.2.2.2.2.1
theorem dX10_reasonAgainst_14 : decode cX10_reasonAgainst 14 = .ok (.ifCond .ne 5, 3) := eX10_reasonAgainst_0.2.2.2.2.2.2.2
theorem eX10_reasonAgainst_8 : (decode cX10_reasonAgainst 17 = .ok (.iconst (-1), 1)) ∧ (decode cX10_reasonAgainst 18 = .ok (.ireturn, 1)) ∧ (decode cX10_reasonAgainst 19 = .ok (.aload_n 0, 1)) ∧ (decode cX10_reasonAgainst 20 = .ok (.getfield 19, 3)) ∧ (decode cX10_reasonAgainst 23 = .ok (.iload_n 1, 1)) ∧ (decode cX10_reasonAgainst 24 = .ok (.invokevirtual 115, 3)) ∧ (decode cX10_reasonAgainst 27 = .ok (.ifCond .eq 14, 3)) ∧ (decode cX10_reasonAgainst 30 = .ok (.aload_n 0, 1)) := by decide +kernel
theorem dX10_reasonAgainst_17 : decode cX10_reasonAgainst 17 = .ok (.iconst (-1), 1) := eX10_reasonAgainst_8.1
theorem dX10_reasonAgainst_18 : decode cX10_reasonAgainst 18 = .ok (.ireturn, 1) := eX10_reasonAgainst_8.2.1
theorem dX10_reasonAgainst_19 : decode cX10_reasonAgainst 19 = .ok (.aload_n 0, 1) := eX10_reasonAgainst_8.2.2.1
theorem dX10_reasonAgainst_20 : decode cX10_reasonAgainst 20 = .ok (.getfield 19, 3) := eX10_reasonAgainst_8.2.2.2.1
theorem dX10_reasonAgainst_23 : decode cX10_reasonAgainst 23 = .ok (.iload_n 1, 1) := eX10_reasonAgainst_8.2.2.2.2.1
theorem dX10_reasonAgainst_24 : decode cX10_reasonAgainst 24 = .ok (.invokevirtual 115, 3) := eX10_reasonAgainst_8.2.2.2.2.2.1
theorem dX10_reasonAgainst_27 : decode cX10_reasonAgainst 27 = .ok (.ifCond .eq 14, 3) := eX10_reasonAgainst_8.2.2.2.2.2.2.1
theorem dX10_reasonAgainst_30 : decode cX10_reasonAgainst 30 = .ok (.aload_n 0, 1) := eX10_reasonAgainst_8.2.2.2.2.2.2.2
theorem eX10_reasonAgainst_16 : (decode cX10_reasonAgainst 31 = .ok (.getfield 10, 3)) ∧ (decode cX10_reasonAgainst 34 = .ok (.iload_n 2, 1)) ∧ (decode cX10_reasonAgainst 35 = .ok (.invokevirtual 288, 3)) ∧ (decode cX10_reasonAgainst 38 = .ok (.ifCond .ne 6, 3)) ∧ (decode cX10_reasonAgainst 41 = .ok (.bipush (-2), 2)) ∧ (decode cX10_reasonAgainst 43 = .ok (.ireturn, 1)) ∧ (decode cX10_reasonAgainst 44 = .ok (.aload_n 0, 1)) ∧ (decode cX10_reasonAgainst 45 = .ok (.getfield 35, 3)) := by decide +kernel
theorem dX10_reasonAgainst_31 : decode cX10_reasonAgainst 31 = .ok (.getfield 10, 3) := eX10_reasonAgainst_16.1
theorem dX10_reasonAgainst_34 : decode cX10_reasonAgainst 34 = .ok (.iload_n 2, 1) := eX10_reasonAgainst_16.2.1
theorem dX10_reasonAgainst_35 : decode cX10_reasonAgainst 35 = .ok (.invokevirtual 288, 3) := eX10_reasonAgainst_16.2.2.1
theorem dX10_reasonAgainst_38 : decode cX10_reasonAgainst 38 = .ok (.ifCond .ne 6, 3) := eX10_reasonAgainst_16.2.2.2.1
theorem dX10_reasonAgainst_41 : decode cX10_reasonAgainst 41 = .ok (.bipush (-2), 2) := eX10_reasonAgainst_16.2.2.2.2.1
theorem dX10_reasonAgainst_43 : decode cX10_reasonAgainst 43 = .ok (.ireturn, 1) := eX10_reasonAgainst_16.2.2.2.2.2.1
theorem dX10_reasonAgainst_44 : decode cX10_reasonAgainst 44 = .ok (.aload_n 0, 1) := eX10_reasonAgainst_16.2.2.2.2.2.2.1
theorem dX10_reasonAgainst_45 : decode cX10_reasonAgainst 45 = .ok (.getfield 35, 3) := eX10_reasonAgainst_16.2.2.2.2.2.2.2
theorem eX10_reasonAgainst_24 : (decode cX10_reasonAgainst 48 = .ok (.iload_n 1, 1)) ∧ (decode cX10_reasonAgainst 49 = .ok (.iload_n 2, 1)) ∧ (decode cX10_reasonAgainst 50 = .ok (.iload_n 3, 1)) ∧ (decode cX10_reasonAgainst 51 = .ok (.iload 4, 2)) ∧ (decode cX10_reasonAgainst 53 = .ok (.iconst (-1), 1)) ∧ (decode cX10_reasonAgainst 54 = .ok (.invokevirtual 289, 3)) ∧ (decode cX10_reasonAgainst 57 = .ok (.ireturn, 1)) := by decide +kernel
theorem dX10_reasonAgainst_48 : decode cX10_reasonAgainst 48 = .ok (.iload_n 1, 1) := eX10_reasonAgainst_24.1
theorem dX10_reasonAgainst_49 : decode cX10_reasonAgainst 49 = .ok (.iload_n 2, 1) := eX10_reasonAgainst_24.2.1
theorem dX10_reasonAgainst_50 : decode cX10_reasonAgainst 50 = .ok (.iload_n 3, 1) := eX10_reasonAgainst_24.2.2.1
theorem dX10_reasonAgainst_51 : decode cX10_reasonAgainst 51 = .ok (.iload 4, 2) := eX10_reasonAgainst_24.2.2.2.1
theorem dX10_reasonAgainst_53 : decode cX10_reasonAgainst 53 = .ok (.iconst (-1), 1) := eX10_reasonAgainst_24.2.2.2.2.1
theorem dX10_reasonAgainst_54 : decode cX10_reasonAgainst 54 = .ok (.invokevirtual 289, 3) := eX10_reasonAgainst_24.2.2.2.2.2.1
theorem dX10_reasonAgainst_57 : decode cX10_reasonAgainst 57 = .ok (.ireturn, 1) := eX10_reasonAgainst_24.2.2.2.2.2.2
theorem eX10_within_0 : (decode cX10_within 0 = .ok (.iload_n 0, 1)) ∧ (decode cX10_within 1 = .ok (.iload_n 1, 1)) ∧ (decode cX10_within 2 = .ok (.if_icmp .lt 12, 3)) ∧ (decode cX10_within 5 = .ok (.iload_n 0, 1)) ∧ (decode cX10_within 6 = .ok (.iload_n 2, 1)) ∧ (decode cX10_within 7 = .ok (.if_icmp .gt 7, 3)) ∧ (decode cX10_within 10 = .ok (.iconst 1, 1)) ∧ (decode cX10_within 11 = .ok (.goto 4, 3)) := by decide +kernel
theorem dX10_within_0 : decode cX10_within 0 = .ok (.iload_n 0, 1) := eX10_within_0.1
theorem dX10_within_1 : decode cX10_within 1 = .ok (.iload_n 1, 1) := eX10_within_0.2.1
theorem dX10_within_2 : decode cX10_within 2 = .ok (.if_icmp .lt 12, 3) := eX10_within_0.2.2.1
theorem dX10_within_5 : decode cX10_within 5 = .ok (.iload_n 0, 1) := eX10_within_0.2.2.2.1
theorem dX10_within_6 : decode cX10_within 6 = .ok (.iload_n 2, 1) := eX10_within_0.2.2.2.2.1
theorem dX10_within_7 : decode cX10_within 7 = .ok (.if_icmp .gt 7, 3) := eX10_within_0.2.2.2.2.2.1
theorem dX10_within_10 : decode cX10_within 10 = .ok (.iconst 1, 1) := eX10_within_0.2.2.2.2.2.2.1
theorem dX10_within_11 : decode cX10_within 11 = .ok (.goto 4, 3) := eX10_within_0.2.2.2.2.2.2.2
theorem eX10_within_8 : (decode cX10_within 14 = .ok (.iconst 0, 1)) ∧ (decode cX10_within 15 = .ok (.ireturn, 1)) := by decide +kernel
theorem dX10_within_14 : decode cX10_within 14 = .ok (.iconst 0, 1) := eX10_within_8.1
theorem dX10_within_15 : decode cX10_within 15 = .ok (.ireturn, 1) := eX10_within_8.2
theorem eX10_isTown_0 : (decode cX10_isTown 0 = .ok (.iload_n 0, 1)) ∧ (decode cX10_isTown 1 = .ok (.iconst 0, 1)) ∧ (decode cX10_isTown 2 = .ok (.iconst 4, 1)) ∧ (decode cX10_isTown 3 = .ok (.invokestatic 93, 3)) ∧ (decode cX10_isTown 6 = .ok (.ireturn, 1)) := by decide +kernel
theorem dX10_isTown_0 : decode cX10_isTown 0 = .ok (.iload_n 0, 1) := eX10_isTown_0.1
theorem dX10_isTown_1 : decode cX10_isTown 1 = .ok (.iconst 0, 1) := eX10_isTown_0.2.1
theorem dX10_isTown_2 : decode cX10_isTown 2 = .ok (.iconst 4, 1) := eX10_isTown_0.2.2.1
theorem dX10_isTown_3 : decode cX10_isTown 3 = .ok (.invokestatic 93, 3) := eX10_isTown_0.2.2.2.1
theorem dX10_isTown_6 : decode cX10_isTown 6 = .ok (.ireturn, 1) := eX10_isTown_0.2.2.2.2
theorem eX10_isMinute_0 : (decode cX10_isMinute 0 = .ok (.iload_n 0, 1)) ∧ (decode cX10_isMinute 1 = .ok (.iconst 0, 1)) ∧ (decode cX10_isMinute 2 = .ok (.sipush 14399, 3)) ∧ (decode cX10_isMinute 5 = .ok (.invokestatic 93, 3)) ∧ (decode cX10_isMinute 8 = .ok (.ireturn, 1)) := by decide +kernel
theorem dX10_isMinute_0 : decode cX10_isMinute 0 = .ok (.iload_n 0, 1) := eX10_isMinute_0.1
theorem dX10_isMinute_1 : decode cX10_isMinute 1 = .ok (.iconst 0, 1) := eX10_isMinute_0.2.1
theorem dX10_isMinute_2 : decode cX10_isMinute 2 = .ok (.sipush 14399, 3) := eX10_isMinute_0.2.2.1
theorem dX10_isMinute_5 : decode cX10_isMinute 5 = .ok (.invokestatic 93, 3) := eX10_isMinute_0.2.2.2.1
theorem dX10_isMinute_8 : decode cX10_isMinute 8 = .ok (.ireturn, 1) := eX10_isMinute_0.2.2.2.2
theorem eX10_isKnown_0 : (decode cX10_isKnown 0 = .ok (.iload_n 0, 1)) ∧ (decode cX10_isKnown 1 = .ok (.iconst 0, 1)) ∧ (decode cX10_isKnown 2 = .ok (.ldc_w 292, 3)) ∧ (decode cX10_isKnown 5 = .ok (.invokestatic 93, 3)) ∧ (decode cX10_isKnown 8 = .ok (.ireturn, 1)) := by decide +kernel
theorem dX10_isKnown_0 : decode cX10_isKnown 0 = .ok (.iload_n 0, 1) := eX10_isKnown_0.1
theorem dX10_isKnown_1 : decode cX10_isKnown 1 = .ok (.iconst 0, 1) := eX10_isKnown_0.2.1
theorem dX10_isKnown_2 : decode cX10_isKnown 2 = .ok (.ldc_w 292, 3) := eX10_isKnown_0.2.2.1
theorem dX10_isKnown_5 : decode cX10_isKnown 5 = .ok (.invokestatic 93, 3) := eX10_isKnown_0.2.2.2.1
theorem dX10_isKnown_8 : decode cX10_isKnown 8 = .ok (.ireturn, 1) := eX10_isKnown_0.2.2.2.2
