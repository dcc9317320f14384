theorem d0_0 : decode (zbyt 0) 0 = .ok (.aload_n 0, 1) := by decide +kernel
theorem d0_1 : decode (zbyt 0) 1 = .ok (.invokespecial 3, 3) := by decide +kernel
theorem d0_4 : decode (zbyt 0) 4 = .ok (.aload_n 0, 1) := by decide +kernel
theorem d0_5 : decode (zbyt 0) 5 = .ok (.bipush 25, 2) := by decide +kernel
theorem d0_7 : decode (zbyt 0) 7 = .ok (.newarray .int, 2) := by decide +kernel
theorem d0_9 : decode (zbyt 0) 9 = .ok (.putfield 9, 3) := by decide +kernel
theorem d0_12 : decode (zbyt 0) 12 = .ok (.aload_n 0, 1) := by decide +kernel
theorem d0_13 : decode (zbyt 0) 13 = .ok (.sipush 192, 3) := by decide +kernel
theorem d0_16 : decode (zbyt 0) 16 = .ok (.newarray .int, 2) := by decide +kernel
theorem d0_18 : decode (zbyt 0) 18 = .ok (.putfield 15, 3) := by decide +kernel
theorem d0_21 : decode (zbyt 0) 21 = .ok (.aload_n 0, 1) := by decide +kernel
theorem d0_22 : decode (zbyt 0) 22 = .ok (.iconst 5, 1) := by decide +kernel
theorem d0_23 : decode (zbyt 0) 23 = .ok (.newarray .int, 2) := by decide +kernel
theorem d0_25 : decode (zbyt 0) 25 = .ok (.putfield 18, 3) := by decide +kernel
theorem d0_28 : decode (zbyt 0) 28 = .ok (.return_, 1) := by decide +kernel
theorem d1_0 : decode (zbyt 1) 0 = .ok (.aload_n 0, 1) := by decide +kernel
theorem d1_1 : decode (zbyt 1) 1 = .ok (.aload_n 1, 1) := by decide +kernel
theorem d1_2 : decode (zbyt 1) 2 = .ok (.invokevirtual 21, 3) := by decide +kernel
theorem d1_5 : decode (zbyt 1) 5 = .ok (.iconst 4, 1) := by decide +kernel
theorem d1_6 : decode (zbyt 1) 6 = .ok (.istore_n 2, 1) := by decide +kernel
theorem d1_7 : decode (zbyt 1) 7 = .ok (.iload_n 2, 1) := by decide +kernel
theorem d1_8 : decode (zbyt 1) 8 = .ok (.ifCond .lt 41, 3) := by decide +kernel
theorem d1_11 : decode (zbyt 1) 11 = .ok (.iconst 0, 1) := by decide +kernel
theorem d1_12 : decode (zbyt 1) 12 = .ok (.istore_n 3, 1) := by decide +kernel
theorem d1_13 : decode (zbyt 1) 13 = .ok (.iload_n 3, 1) := by decide +kernel
theorem d1_14 : decode (zbyt 1) 14 = .ok (.bipush 32, 2) := by decide +kernel
theorem d1_16 : decode (zbyt 1) 16 = .ok (.if_icmp .ge 27, 3) := by decide +kernel
theorem d1_19 : decode (zbyt 1) 19 = .ok (.aload_n 0, 1) := by decide +kernel
theorem d1_20 : decode (zbyt 1) 20 = .ok (.iload_n 2, 1) := by decide +kernel
theorem d1_21 : decode (zbyt 1) 21 = .ok (.iload_n 3, 1) := by decide +kernel
theorem d1_22 : decode (zbyt 1) 22 = .ok (.aload_n 0, 1) := by decide +kernel
theorem d1_23 : decode (zbyt 1) 23 = .ok (.iload_n 2, 1) := by decide +kernel
theorem d1_24 : decode (zbyt 1) 24 = .ok (.iload_n 3, 1) := by decide +kernel
theorem d1_25 : decode (zbyt 1) 25 = .ok (.aload_n 0, 1) := by decide +kernel
theorem d1_26 : decode (zbyt 1) 26 = .ok (.iload_n 2, 1) := by decide +kernel
theorem d1_27 : decode (zbyt 1) 27 = .ok (.iload_n 3, 1) := by decide +kernel
theorem d1_28 : decode (zbyt 1) 28 = .ok (.invokevirtual 25, 3) := by decide +kernel
theorem d1_31 : decode (zbyt 1) 31 = .ok (.invokevirtual 29, 3) := by decide +kernel
theorem d1_34 : decode (zbyt 1) 34 = .ok (.invokevirtual 33, 3) := by decide +kernel
theorem d1_37 : decode (zbyt 1) 37 = .ok (.iinc 3 1, 3) := by decide +kernel
theorem d1_40 : decode (zbyt 1) 40 = .ok (.goto (-27), 3) := by decide +kernel
theorem d1_43 : decode (zbyt 1) 43 = .ok (.iinc 2 (-1), 3) := by decide +kernel
theorem d1_46 : decode (zbyt 1) 46 = .ok (.goto (-39), 3) := by decide +kernel
theorem d1_49 : decode (zbyt 1) 49 = .ok (.aload_n 0, 1) := by decide +kernel
theorem d1_50 : decode (zbyt 1) 50 = .ok (.invokevirtual 37, 3) := by decide +kernel
theorem d1_53 : decode (zbyt 1) 53 = .ok (.return_, 1) := by decide +kernel
theorem d2_0 : decode (zbyt 2) 0 = .ok (.iconst 0, 1) := by decide +kernel
theorem d2_1 : decode (zbyt 2) 1 = .ok (.istore_n 2, 1) := by decide +kernel
theorem d2_2 : decode (zbyt 2) 2 = .ok (.iload_n 2, 1) := by decide +kernel
theorem d2_3 : decode (zbyt 2) 3 = .ok (.aload_n 0, 1) := by decide +kernel
theorem d2_4 : decode (zbyt 2) 4 = .ok (.getfield 9, 3) := by decide +kernel
theorem d2_7 : decode (zbyt 2) 7 = .ok (.arraylength, 1) := by decide +kernel
theorem d2_8 : decode (zbyt 2) 8 = .ok (.if_icmp .ge 53, 3) := by decide +kernel
theorem d2_11 : decode (zbyt 2) 11 = .ok (.aload_n 1, 1) := by decide +kernel
theorem d2_12 : decode (zbyt 2) 12 = .ok (.iload_n 2, 1) := by decide +kernel
theorem d2_13 : decode (zbyt 2) 13 = .ok (.iconst 5, 1) := by decide +kernel
theorem d2_14 : decode (zbyt 2) 14 = .ok (.idiv, 1) := by decide +kernel
theorem d2_15 : decode (zbyt 2) 15 = .ok (.invokevirtual 40, 3) := by decide +kernel
theorem d2_18 : decode (zbyt 2) 18 = .ok (.astore_n 3, 1) := by decide +kernel
theorem d2_19 : decode (zbyt 2) 19 = .ok (.iload_n 2, 1) := by decide +kernel
theorem d2_20 : decode (zbyt 2) 20 = .ok (.iconst 5, 1) := by decide +kernel
theorem d2_21 : decode (zbyt 2) 21 = .ok (.irem, 1) := by decide +kernel
theorem d2_22 : decode (zbyt 2) 22 = .ok (.istore 4, 2) := by decide +kernel
theorem d2_24 : decode (zbyt 2) 24 = .ok (.aload_n 0, 1) := by decide +kernel
theorem d2_25 : decode (zbyt 2) 25 = .ok (.getfield 9, 3) := by decide +kernel
theorem d2_28 : decode (zbyt 2) 28 = .ok (.iload_n 2, 1) := by decide +kernel
theorem d2_29 : decode (zbyt 2) 29 = .ok (.aload_n 3, 1) := by decide +kernel
theorem d2_30 : decode (zbyt 2) 30 = .ok (.ifnull 12, 3) := by decide +kernel
theorem d2_33 : decode (zbyt 2) 33 = .ok (.aload_n 1, 1) := by decide +kernel
theorem d2_34 : decode (zbyt 2) 34 = .ok (.iload 4, 2) := by decide +kernel
theorem d2_36 : decode (zbyt 2) 36 = .ok (.invokevirtual 46, 3) := by decide +kernel
theorem d2_39 : decode (zbyt 2) 39 = .ok (.ifCond .ne 8, 3) := by decide +kernel
theorem d2_42 : decode (zbyt 2) 42 = .ok (.bipush (-9), 2) := by decide +kernel
theorem d2_44 : decode (zbyt 2) 44 = .ok (.goto 10, 3) := by decide +kernel
theorem d2_47 : decode (zbyt 2) 47 = .ok (.aload_n 1, 1) := by decide +kernel
theorem d2_48 : decode (zbyt 2) 48 = .ok (.aload_n 3, 1) := by decide +kernel
theorem d2_49 : decode (zbyt 2) 49 = .ok (.iload 4, 2) := by decide +kernel
theorem d2_51 : decode (zbyt 2) 51 = .ok (.invokevirtual 50, 3) := by decide +kernel
theorem d2_54 : decode (zbyt 2) 54 = .ok (.iastore, 1) := by decide +kernel
theorem d2_55 : decode (zbyt 2) 55 = .ok (.iinc 2 1, 3) := by decide +kernel
theorem d2_58 : decode (zbyt 2) 58 = .ok (.goto (-56), 3) := by decide +kernel
theorem d2_61 : decode (zbyt 2) 61 = .ok (.return_, 1) := by decide +kernel
theorem d3_0 : decode (zbyt 3) 0 = .ok (.aload_n 0, 1) := by decide +kernel
theorem d3_1 : decode (zbyt 3) 1 = .ok (.iconst 0, 1) := by decide +kernel
theorem d3_2 : decode (zbyt 3) 2 = .ok (.putfield 54, 3) := by decide +kernel
theorem d3_5 : decode (zbyt 3) 5 = .ok (.aload_n 0, 1) := by decide +kernel
theorem d3_6 : decode (zbyt 3) 6 = .ok (.iconst 0, 1) := by decide +kernel
theorem d3_7 : decode (zbyt 3) 7 = .ok (.putfield 58, 3) := by decide +kernel
theorem d3_10 : decode (zbyt 3) 10 = .ok (.iconst 0, 1) := by decide +kernel
theorem d3_11 : decode (zbyt 3) 11 = .ok (.istore_n 1, 1) := by decide +kernel
theorem d3_12 : decode (zbyt 3) 12 = .ok (.iconst 0, 1) := by decide +kernel
theorem d3_13 : decode (zbyt 3) 13 = .ok (.istore_n 2, 1) := by decide +kernel
theorem d3_14 : decode (zbyt 3) 14 = .ok (.iload_n 2, 1) := by decide +kernel
theorem d3_15 : decode (zbyt 3) 15 = .ok (.aload_n 0, 1) := by decide +kernel
theorem d3_16 : decode (zbyt 3) 16 = .ok (.getfield 18, 3) := by decide +kernel
theorem d3_19 : decode (zbyt 3) 19 = .ok (.arraylength, 1) := by decide +kernel
theorem d3_20 : decode (zbyt 3) 20 = .ok (.if_icmp .ge 71, 3) := by decide +kernel
theorem d3_23 : decode (zbyt 3) 23 = .ok (.aload_n 0, 1) := by decide +kernel
theorem d3_24 : decode (zbyt 3) 24 = .ok (.iload_n 2, 1) := by decide +kernel
theorem d3_25 : decode (zbyt 3) 25 = .ok (.iload_n 1, 1) := by decide +kernel
theorem d3_26 : decode (zbyt 3) 26 = .ok (.invokevirtual 25, 3) := by decide +kernel
theorem d3_29 : decode (zbyt 3) 29 = .ok (.istore_n 3, 1) := by decide +kernel
theorem d3_30 : decode (zbyt 3) 30 = .ok (.aload_n 0, 1) := by decide +kernel
theorem d3_31 : decode (zbyt 3) 31 = .ok (.getfield 18, 3) := by decide +kernel
theorem d3_34 : decode (zbyt 3) 34 = .ok (.iload_n 2, 1) := by decide +kernel
theorem d3_35 : decode (zbyt 3) 35 = .ok (.iload_n 3, 1) := by decide +kernel
theorem d3_36 : decode (zbyt 3) 36 = .ok (.bipush 9, 2) := by decide +kernel
theorem d3_38 : decode (zbyt 3) 38 = .ok (.if_icmp .ne 8, 3) := by decide +kernel
theorem d3_41 : decode (zbyt 3) 41 = .ok (.bipush (-9), 2) := by decide +kernel
theorem d3_43 : decode (zbyt 3) 43 = .ok (.goto 4, 3) := by decide +kernel
theorem d3_46 : decode (zbyt 3) 46 = .ok (.iload_n 3, 1) := by decide +kernel
theorem d3_47 : decode (zbyt 3) 47 = .ok (.iastore, 1) := by decide +kernel
theorem d3_48 : decode (zbyt 3) 48 = .ok (.iload_n 3, 1) := by decide +kernel
theorem d3_49 : decode (zbyt 3) 49 = .ok (.bipush 9, 2) := by decide +kernel
theorem d3_51 : decode (zbyt 3) 51 = .ok (.if_icmp .eq 34, 3) := by decide +kernel
theorem d3_54 : decode (zbyt 3) 54 = .ok (.iload_n 1, 1) := by decide +kernel
theorem d3_55 : decode (zbyt 3) 55 = .ok (.iconst 1, 1) := by decide +kernel
theorem d3_56 : decode (zbyt 3) 56 = .ok (.iload_n 3, 1) := by decide +kernel
theorem d3_57 : decode (zbyt 3) 57 = .ok (.ishl, 1) := by decide +kernel
theorem d3_58 : decode (zbyt 3) 58 = .ok (.ior, 1) := by decide +kernel
theorem d3_59 : decode (zbyt 3) 59 = .ok (.istore_n 1, 1) := by decide +kernel
theorem d3_60 : decode (zbyt 3) 60 = .ok (.aload_n 0, 1) := by decide +kernel
theorem d3_61 : decode (zbyt 3) 61 = .ok (.dup, 1) := by decide +kernel
theorem d3_62 : decode (zbyt 3) 62 = .ok (.getfield 54, 3) := by decide +kernel
theorem d3_65 : decode (zbyt 3) 65 = .ok (.iconst 1, 1) := by decide +kernel
theorem d3_66 : decode (zbyt 3) 66 = .ok (.iadd, 1) := by decide +kernel
theorem d3_67 : decode (zbyt 3) 67 = .ok (.putfield 54, 3) := by decide +kernel
theorem d3_70 : decode (zbyt 3) 70 = .ok (.aload_n 0, 1) := by decide +kernel
theorem d3_71 : decode (zbyt 3) 71 = .ok (.dup, 1) := by decide +kernel
theorem d3_72 : decode (zbyt 3) 72 = .ok (.getfield 58, 3) := by decide +kernel
theorem d3_75 : decode (zbyt 3) 75 = .ok (.aload_n 0, 1) := by decide +kernel
theorem d3_76 : decode (zbyt 3) 76 = .ok (.iload_n 2, 1) := by decide +kernel
theorem d3_77 : decode (zbyt 3) 77 = .ok (.iload_n 3, 1) := by decide +kernel
theorem d3_78 : decode (zbyt 3) 78 = .ok (.invokevirtual 61, 3) := by decide +kernel
theorem d3_81 : decode (zbyt 3) 81 = .ok (.iadd, 1) := by decide +kernel
theorem d3_82 : decode (zbyt 3) 82 = .ok (.putfield 58, 3) := by decide +kernel
theorem d3_85 : decode (zbyt 3) 85 = .ok (.iinc 2 1, 3) := by decide +kernel
theorem d3_88 : decode (zbyt 3) 88 = .ok (.goto (-74), 3) := by decide +kernel
theorem d3_91 : decode (zbyt 3) 91 = .ok (.return_, 1) := by decide +kernel
theorem d4_0 : decode (zbyt 4) 0 = .ok (.bipush 9, 2) := by decide +kernel
theorem d4_2 : decode (zbyt 4) 2 = .ok (.istore_n 3, 1) := by decide +kernel
theorem d4_3 : decode (zbyt 4) 3 = .ok (.iconst (-1), 1) := by decide +kernel
theorem d4_4 : decode (zbyt 4) 4 = .ok (.istore 4, 2) := by decide +kernel
theorem d4_6 : decode (zbyt 4) 6 = .ok (.iconst 0, 1) := by decide +kernel
theorem d4_7 : decode (zbyt 4) 7 = .ok (.istore 5, 2) := by decide +kernel
theorem d4_9 : decode (zbyt 4) 9 = .ok (.iload 5, 2) := by decide +kernel
theorem d4_11 : decode (zbyt 4) 11 = .ok (.iconst 5, 1) := by decide +kernel
theorem d4_12 : decode (zbyt 4) 12 = .ok (.if_icmp .ge 33, 3) := by decide +kernel
theorem d4_15 : decode (zbyt 4) 15 = .ok (.aload_n 0, 1) := by decide +kernel
theorem d4_16 : decode (zbyt 4) 16 = .ok (.iload_n 1, 1) := by decide +kernel
theorem d4_17 : decode (zbyt 4) 17 = .ok (.iload_n 2, 1) := by decide +kernel
theorem d4_18 : decode (zbyt 4) 18 = .ok (.iload 5, 2) := by decide +kernel
theorem d4_20 : decode (zbyt 4) 20 = .ok (.invokevirtual 29, 3) := by decide +kernel
theorem d4_23 : decode (zbyt 4) 23 = .ok (.istore 6, 2) := by decide +kernel
theorem d4_25 : decode (zbyt 4) 25 = .ok (.iload 6, 2) := by decide +kernel
theorem d4_27 : decode (zbyt 4) 27 = .ok (.iload 4, 2) := by decide +kernel
theorem d4_29 : decode (zbyt 4) 29 = .ok (.if_icmp .le 10, 3) := by decide +kernel
theorem d4_32 : decode (zbyt 4) 32 = .ok (.iload 5, 2) := by decide +kernel
theorem d4_34 : decode (zbyt 4) 34 = .ok (.istore_n 3, 1) := by decide +kernel
theorem d4_35 : decode (zbyt 4) 35 = .ok (.iload 6, 2) := by decide +kernel
theorem d4_37 : decode (zbyt 4) 37 = .ok (.istore 4, 2) := by decide +kernel
theorem d4_39 : decode (zbyt 4) 39 = .ok (.iinc 5 1, 3) := by decide +kernel
theorem d4_42 : decode (zbyt 4) 42 = .ok (.goto (-33), 3) := by decide +kernel
theorem d4_45 : decode (zbyt 4) 45 = .ok (.aload_n 0, 1) := by decide +kernel
theorem d4_46 : decode (zbyt 4) 46 = .ok (.iload_n 1, 1) := by decide +kernel
theorem d4_47 : decode (zbyt 4) 47 = .ok (.iload_n 2, 1) := by decide +kernel
theorem d4_48 : decode (zbyt 4) 48 = .ok (.bipush 9, 2) := by decide +kernel
theorem d4_50 : decode (zbyt 4) 50 = .ok (.invokevirtual 29, 3) := by decide +kernel
theorem d4_53 : decode (zbyt 4) 53 = .ok (.iload 4, 2) := by decide +kernel
theorem d4_55 : decode (zbyt 4) 55 = .ok (.if_icmp .le 8, 3) := by decide +kernel
theorem d4_58 : decode (zbyt 4) 58 = .ok (.bipush 9, 2) := by decide +kernel
theorem d4_60 : decode (zbyt 4) 60 = .ok (.goto 4, 3) := by decide +kernel
theorem d4_63 : decode (zbyt 4) 63 = .ok (.iload_n 3, 1) := by decide +kernel
theorem d4_64 : decode (zbyt 4) 64 = .ok (.ireturn, 1) := by decide +kernel
theorem d5_0 : decode (zbyt 5) 0 = .ok (.iload_n 3, 1) := by decide +kernel
theorem d5_1 : decode (zbyt 5) 1 = .ok (.bipush 9, 2) := by decide +kernel
theorem d5_3 : decode (zbyt 5) 3 = .ok (.if_icmp .ne 12, 3) := by decide +kernel
theorem d5_6 : decode (zbyt 5) 6 = .ok (.aload_n 0, 1) := by decide +kernel
theorem d5_7 : decode (zbyt 5) 7 = .ok (.iload_n 1, 1) := by decide +kernel
theorem d5_8 : decode (zbyt 5) 8 = .ok (.iconst 1, 1) := by decide +kernel
theorem d5_9 : decode (zbyt 5) 9 = .ok (.iadd, 1) := by decide +kernel
theorem d5_10 : decode (zbyt 5) 10 = .ok (.iload_n 2, 1) := by decide +kernel
theorem d5_11 : decode (zbyt 5) 11 = .ok (.invokevirtual 63, 3) := by decide +kernel
theorem d5_14 : decode (zbyt 5) 14 = .ok (.ireturn, 1) := by decide +kernel
theorem d5_15 : decode (zbyt 5) 15 = .ok (.aload_n 0, 1) := by decide +kernel
theorem d5_16 : decode (zbyt 5) 16 = .ok (.iload_n 1, 1) := by decide +kernel
theorem d5_17 : decode (zbyt 5) 17 = .ok (.iload_n 3, 1) := by decide +kernel
theorem d5_18 : decode (zbyt 5) 18 = .ok (.invokevirtual 61, 3) := by decide +kernel
theorem d5_21 : decode (zbyt 5) 21 = .ok (.istore 4, 2) := by decide +kernel
theorem d5_23 : decode (zbyt 5) 23 = .ok (.iload 4, 2) := by decide +kernel
theorem d5_25 : decode (zbyt 5) 25 = .ok (.bipush (-9), 2) := by decide +kernel
theorem d5_27 : decode (zbyt 5) 27 = .ok (.if_icmp .eq 12, 3) := by decide +kernel
theorem d5_30 : decode (zbyt 5) 30 = .ok (.iload_n 2, 1) := by decide +kernel
theorem d5_31 : decode (zbyt 5) 31 = .ok (.iload_n 3, 1) := by decide +kernel
theorem d5_32 : decode (zbyt 5) 32 = .ok (.ishr, 1) := by decide +kernel
theorem d5_33 : decode (zbyt 5) 33 = .ok (.iconst 1, 1) := by decide +kernel
theorem d5_34 : decode (zbyt 5) 34 = .ok (.iand, 1) := by decide +kernel
theorem d5_35 : decode (zbyt 5) 35 = .ok (.iconst 1, 1) := by decide +kernel
theorem d5_36 : decode (zbyt 5) 36 = .ok (.if_icmp .ne 5, 3) := by decide +kernel
theorem d5_39 : decode (zbyt 5) 39 = .ok (.iconst (-1), 1) := by decide +kernel
theorem d5_40 : decode (zbyt 5) 40 = .ok (.ireturn, 1) := by decide +kernel
theorem d5_41 : decode (zbyt 5) 41 = .ok (.bipush 100, 2) := by decide +kernel
theorem d5_43 : decode (zbyt 5) 43 = .ok (.iload 4, 2) := by decide +kernel
theorem d5_45 : decode (zbyt 5) 45 = .ok (.isub, 1) := by decide +kernel
theorem d5_46 : decode (zbyt 5) 46 = .ok (.aload_n 0, 1) := by decide +kernel
theorem d5_47 : decode (zbyt 5) 47 = .ok (.iload_n 1, 1) := by decide +kernel
theorem d5_48 : decode (zbyt 5) 48 = .ok (.iconst 1, 1) := by decide +kernel
theorem d5_49 : decode (zbyt 5) 49 = .ok (.iadd, 1) := by decide +kernel
theorem d5_50 : decode (zbyt 5) 50 = .ok (.iload_n 2, 1) := by decide +kernel
theorem d5_51 : decode (zbyt 5) 51 = .ok (.iconst 1, 1) := by decide +kernel
theorem d5_52 : decode (zbyt 5) 52 = .ok (.iload_n 3, 1) := by decide +kernel
theorem d5_53 : decode (zbyt 5) 53 = .ok (.ishl, 1) := by decide +kernel
theorem d5_54 : decode (zbyt 5) 54 = .ok (.ior, 1) := by decide +kernel
theorem d5_55 : decode (zbyt 5) 55 = .ok (.invokevirtual 63, 3) := by decide +kernel
theorem d5_58 : decode (zbyt 5) 58 = .ok (.iadd, 1) := by decide +kernel
theorem d5_59 : decode (zbyt 5) 59 = .ok (.ireturn, 1) := by decide +kernel
theorem d6_0 : decode (zbyt 6) 0 = .ok (.iload_n 1, 1) := by decide +kernel
theorem d6_1 : decode (zbyt 6) 1 = .ok (.iconst 5, 1) := by decide +kernel
theorem d6_2 : decode (zbyt 6) 2 = .ok (.imul, 1) := by decide +kernel
theorem d6_3 : decode (zbyt 6) 3 = .ok (.iload_n 2, 1) := by decide +kernel
theorem d6_4 : decode (zbyt 6) 4 = .ok (.iadd, 1) := by decide +kernel
theorem d6_5 : decode (zbyt 6) 5 = .ok (.istore_n 3, 1) := by decide +kernel
theorem d6_6 : decode (zbyt 6) 6 = .ok (.iload_n 3, 1) := by decide +kernel
theorem d6_7 : decode (zbyt 6) 7 = .ok (.ifCond .lt 21, 3) := by decide +kernel
theorem d6_10 : decode (zbyt 6) 10 = .ok (.iload_n 3, 1) := by decide +kernel
theorem d6_11 : decode (zbyt 6) 11 = .ok (.aload_n 0, 1) := by decide +kernel
theorem d6_12 : decode (zbyt 6) 12 = .ok (.getfield 9, 3) := by decide +kernel
theorem d6_15 : decode (zbyt 6) 15 = .ok (.arraylength, 1) := by decide +kernel
theorem d6_16 : decode (zbyt 6) 16 = .ok (.if_icmp .ge 12, 3) := by decide +kernel
theorem d6_19 : decode (zbyt 6) 19 = .ok (.aload_n 0, 1) := by decide +kernel
theorem d6_20 : decode (zbyt 6) 20 = .ok (.getfield 9, 3) := by decide +kernel
theorem d6_23 : decode (zbyt 6) 23 = .ok (.iload_n 3, 1) := by decide +kernel
theorem d6_24 : decode (zbyt 6) 24 = .ok (.iaload, 1) := by decide +kernel
theorem d6_25 : decode (zbyt 6) 25 = .ok (.goto 5, 3) := by decide +kernel
theorem d6_28 : decode (zbyt 6) 28 = .ok (.bipush (-9), 2) := by decide +kernel
theorem d6_30 : decode (zbyt 6) 30 = .ok (.ireturn, 1) := by decide +kernel
theorem d7_0 : decode (zbyt 7) 0 = .ok (.iload_n 1, 1) := by decide +kernel
theorem d7_1 : decode (zbyt 7) 1 = .ok (.bipush 32, 2) := by decide +kernel
theorem d7_3 : decode (zbyt 7) 3 = .ok (.imul, 1) := by decide +kernel
theorem d7_4 : decode (zbyt 7) 4 = .ok (.iload_n 2, 1) := by decide +kernel
theorem d7_5 : decode (zbyt 7) 5 = .ok (.iadd, 1) := by decide +kernel
theorem d7_6 : decode (zbyt 7) 6 = .ok (.istore_n 3, 1) := by decide +kernel
theorem d7_7 : decode (zbyt 7) 7 = .ok (.iload_n 3, 1) := by decide +kernel
theorem d7_8 : decode (zbyt 7) 8 = .ok (.ifCond .lt 21, 3) := by decide +kernel
theorem d7_11 : decode (zbyt 7) 11 = .ok (.iload_n 3, 1) := by decide +kernel
theorem d7_12 : decode (zbyt 7) 12 = .ok (.aload_n 0, 1) := by decide +kernel
theorem d7_13 : decode (zbyt 7) 13 = .ok (.getfield 15, 3) := by decide +kernel
theorem d7_16 : decode (zbyt 7) 16 = .ok (.arraylength, 1) := by decide +kernel
theorem d7_17 : decode (zbyt 7) 17 = .ok (.if_icmp .ge 12, 3) := by decide +kernel
theorem d7_20 : decode (zbyt 7) 20 = .ok (.aload_n 0, 1) := by decide +kernel
theorem d7_21 : decode (zbyt 7) 21 = .ok (.getfield 15, 3) := by decide +kernel
theorem d7_24 : decode (zbyt 7) 24 = .ok (.iload_n 3, 1) := by decide +kernel
theorem d7_25 : decode (zbyt 7) 25 = .ok (.iaload, 1) := by decide +kernel
theorem d7_26 : decode (zbyt 7) 26 = .ok (.goto 4, 3) := by decide +kernel
theorem d7_29 : decode (zbyt 7) 29 = .ok (.iconst 0, 1) := by decide +kernel
theorem d7_30 : decode (zbyt 7) 30 = .ok (.ireturn, 1) := by decide +kernel
theorem d8_0 : decode (zbyt 8) 0 = .ok (.iload_n 1, 1) := by decide +kernel
theorem d8_1 : decode (zbyt 8) 1 = .ok (.bipush 32, 2) := by decide +kernel
theorem d8_3 : decode (zbyt 8) 3 = .ok (.imul, 1) := by decide +kernel
theorem d8_4 : decode (zbyt 8) 4 = .ok (.iload_n 2, 1) := by decide +kernel
theorem d8_5 : decode (zbyt 8) 5 = .ok (.iadd, 1) := by decide +kernel
theorem d8_6 : decode (zbyt 8) 6 = .ok (.istore 4, 2) := by decide +kernel
theorem d8_8 : decode (zbyt 8) 8 = .ok (.iload 4, 2) := by decide +kernel
theorem d8_10 : decode (zbyt 8) 10 = .ok (.ifCond .lt 21, 3) := by decide +kernel
theorem d8_13 : decode (zbyt 8) 13 = .ok (.iload 4, 2) := by decide +kernel
theorem d8_15 : decode (zbyt 8) 15 = .ok (.aload_n 0, 1) := by decide +kernel
theorem d8_16 : decode (zbyt 8) 16 = .ok (.getfield 15, 3) := by decide +kernel
theorem d8_19 : decode (zbyt 8) 19 = .ok (.arraylength, 1) := by decide +kernel
theorem d8_20 : decode (zbyt 8) 20 = .ok (.if_icmp .ge 11, 3) := by decide +kernel
theorem d8_23 : decode (zbyt 8) 23 = .ok (.aload_n 0, 1) := by decide +kernel
theorem d8_24 : decode (zbyt 8) 24 = .ok (.getfield 15, 3) := by decide +kernel
theorem d8_27 : decode (zbyt 8) 27 = .ok (.iload 4, 2) := by decide +kernel
theorem d8_29 : decode (zbyt 8) 29 = .ok (.iload_n 3, 1) := by decide +kernel
theorem d8_30 : decode (zbyt 8) 30 = .ok (.iastore, 1) := by decide +kernel
theorem d8_31 : decode (zbyt 8) 31 = .ok (.return_, 1) := by decide +kernel
theorem d9_0 : decode (zbyt 9) 0 = .ok (.iload_n 1, 1) := by decide +kernel
theorem d9_1 : decode (zbyt 9) 1 = .ok (.ifCond .lt 21, 3) := by decide +kernel
theorem d9_4 : decode (zbyt 9) 4 = .ok (.iload_n 1, 1) := by decide +kernel
theorem d9_5 : decode (zbyt 9) 5 = .ok (.aload_n 0, 1) := by decide +kernel
theorem d9_6 : decode (zbyt 9) 6 = .ok (.getfield 18, 3) := by decide +kernel
theorem d9_9 : decode (zbyt 9) 9 = .ok (.arraylength, 1) := by decide +kernel
theorem d9_10 : decode (zbyt 9) 10 = .ok (.if_icmp .ge 12, 3) := by decide +kernel
theorem d9_13 : decode (zbyt 9) 13 = .ok (.aload_n 0, 1) := by decide +kernel
theorem d9_14 : decode (zbyt 9) 14 = .ok (.getfield 18, 3) := by decide +kernel
theorem d9_17 : decode (zbyt 9) 17 = .ok (.iload_n 1, 1) := by decide +kernel
theorem d9_18 : decode (zbyt 9) 18 = .ok (.iaload, 1) := by decide +kernel
theorem d9_19 : decode (zbyt 9) 19 = .ok (.goto 5, 3) := by decide +kernel
theorem d9_22 : decode (zbyt 9) 22 = .ok (.bipush (-9), 2) := by decide +kernel
theorem d9_24 : decode (zbyt 9) 24 = .ok (.ireturn, 1) := by decide +kernel
theorem d10_0 : decode (zbyt 10) 0 = .ok (.aload_n 0, 1) := by decide +kernel
theorem d10_1 : decode (zbyt 10) 1 = .ok (.invokespecial 3, 3) := by decide +kernel
theorem d10_4 : decode (zbyt 10) 4 = .ok (.aload_n 0, 1) := by decide +kernel
theorem d10_5 : decode (zbyt 10) 5 = .ok (.iconst 5, 1) := by decide +kernel
theorem d10_6 : decode (zbyt 10) 6 = .ok (.newarray .int, 2) := by decide +kernel
theorem d10_8 : decode (zbyt 10) 8 = .ok (.putfield 9, 3) := by decide +kernel
theorem d10_11 : decode (zbyt 10) 11 = .ok (.aload_n 0, 1) := by decide +kernel
theorem d10_12 : decode (zbyt 10) 12 = .ok (.iconst 5, 1) := by decide +kernel
theorem d10_13 : decode (zbyt 10) 13 = .ok (.anewarray 15, 3) := by decide +kernel
theorem d10_16 : decode (zbyt 10) 16 = .ok (.putfield 17, 3) := by decide +kernel
theorem d10_19 : decode (zbyt 10) 19 = .ok (.iconst 0, 1) := by decide +kernel
theorem d10_20 : decode (zbyt 10) 20 = .ok (.istore_n 1, 1) := by decide +kernel
theorem d10_21 : decode (zbyt 10) 21 = .ok (.iload_n 1, 1) := by decide +kernel
theorem d10_22 : decode (zbyt 10) 22 = .ok (.aload_n 0, 1) := by decide +kernel
theorem d10_23 : decode (zbyt 10) 23 = .ok (.getfield 17, 3) := by decide +kernel
theorem d10_26 : decode (zbyt 10) 26 = .ok (.arraylength, 1) := by decide +kernel
theorem d10_27 : decode (zbyt 10) 27 = .ok (.if_icmp .ge 22, 3) := by decide +kernel
theorem d10_30 : decode (zbyt 10) 30 = .ok (.aload_n 0, 1) := by decide +kernel
theorem d10_31 : decode (zbyt 10) 31 = .ok (.getfield 17, 3) := by decide +kernel
theorem d10_34 : decode (zbyt 10) 34 = .ok (.iload_n 1, 1) := by decide +kernel
theorem d10_35 : decode (zbyt 10) 35 = .ok (.new 15, 3) := by decide +kernel
theorem d10_38 : decode (zbyt 10) 38 = .ok (.dup, 1) := by decide +kernel
theorem d10_39 : decode (zbyt 10) 39 = .ok (.invokespecial 21, 3) := by decide +kernel
theorem d10_42 : decode (zbyt 10) 42 = .ok (.aastore, 1) := by decide +kernel
theorem d10_43 : decode (zbyt 10) 43 = .ok (.iinc 1 1, 3) := by decide +kernel
theorem d10_46 : decode (zbyt 10) 46 = .ok (.goto (-25), 3) := by decide +kernel
theorem d10_49 : decode (zbyt 10) 49 = .ok (.return_, 1) := by decide +kernel
theorem d11_0 : decode (zbyt 11) 0 = .ok (.aload_n 0, 1) := by decide +kernel
theorem d11_1 : decode (zbyt 11) 1 = .ok (.getfield 22, 3) := by decide +kernel
theorem d11_4 : decode (zbyt 11) 4 = .ok (.ifCond .le 7, 3) := by decide +kernel
theorem d11_7 : decode (zbyt 11) 7 = .ok (.iconst 1, 1) := by decide +kernel
theorem d11_8 : decode (zbyt 11) 8 = .ok (.goto 4, 3) := by decide +kernel
theorem d11_11 : decode (zbyt 11) 11 = .ok (.iconst 0, 1) := by decide +kernel
theorem d11_12 : decode (zbyt 11) 12 = .ok (.ireturn, 1) := by decide +kernel
theorem d12_0 : decode (zbyt 12) 0 = .ok (.aload_n 0, 1) := by decide +kernel
theorem d12_1 : decode (zbyt 12) 1 = .ok (.iload_n 1, 1) := by decide +kernel
theorem d12_2 : decode (zbyt 12) 2 = .ok (.putfield 22, 3) := by decide +kernel
theorem d12_5 : decode (zbyt 12) 5 = .ok (.aload_n 0, 1) := by decide +kernel
theorem d12_6 : decode (zbyt 12) 6 = .ok (.iconst 0, 1) := by decide +kernel
theorem d12_7 : decode (zbyt 12) 7 = .ok (.putfield 26, 3) := by decide +kernel
theorem d12_10 : decode (zbyt 12) 10 = .ok (.aload_n 0, 1) := by decide +kernel
theorem d12_11 : decode (zbyt 12) 11 = .ok (.iconst 0, 1) := by decide +kernel
theorem d12_12 : decode (zbyt 12) 12 = .ok (.putfield 29, 3) := by decide +kernel
theorem d12_15 : decode (zbyt 12) 15 = .ok (.aload_n 0, 1) := by decide +kernel
theorem d12_16 : decode (zbyt 12) 16 = .ok (.iconst 0, 1) := by decide +kernel
theorem d12_17 : decode (zbyt 12) 17 = .ok (.putfield 32, 3) := by decide +kernel
theorem d12_20 : decode (zbyt 12) 20 = .ok (.return_, 1) := by decide +kernel
theorem d13_0 : decode (zbyt 13) 0 = .ok (.aload_n 0, 1) := by decide +kernel
theorem d13_1 : decode (zbyt 13) 1 = .ok (.getfield 26, 3) := by decide +kernel
theorem d13_4 : decode (zbyt 13) 4 = .ok (.ifCond .lt 35, 3) := by decide +kernel
theorem d13_7 : decode (zbyt 13) 7 = .ok (.aload_n 0, 1) := by decide +kernel
theorem d13_8 : decode (zbyt 13) 8 = .ok (.getfield 26, 3) := by decide +kernel
theorem d13_11 : decode (zbyt 13) 11 = .ok (.aload_n 0, 1) := by decide +kernel
theorem d13_12 : decode (zbyt 13) 12 = .ok (.getfield 9, 3) := by decide +kernel
theorem d13_15 : decode (zbyt 13) 15 = .ok (.arraylength, 1) := by decide +kernel
theorem d13_16 : decode (zbyt 13) 16 = .ok (.if_icmp .ge 23, 3) := by decide +kernel
theorem d13_19 : decode (zbyt 13) 19 = .ok (.aload_n 0, 1) := by decide +kernel
theorem d13_20 : decode (zbyt 13) 20 = .ok (.getfield 9, 3) := by decide +kernel
theorem d13_23 : decode (zbyt 13) 23 = .ok (.aload_n 0, 1) := by decide +kernel
theorem d13_24 : decode (zbyt 13) 24 = .ok (.getfield 26, 3) := by decide +kernel
theorem d13_27 : decode (zbyt 13) 27 = .ok (.iload_n 1, 1) := by decide +kernel
theorem d13_28 : decode (zbyt 13) 28 = .ok (.iastore, 1) := by decide +kernel
theorem d13_29 : decode (zbyt 13) 29 = .ok (.aload_n 0, 1) := by decide +kernel
theorem d13_30 : decode (zbyt 13) 30 = .ok (.dup, 1) := by decide +kernel
theorem d13_31 : decode (zbyt 13) 31 = .ok (.getfield 26, 3) := by decide +kernel
theorem d13_34 : decode (zbyt 13) 34 = .ok (.iconst 1, 1) := by decide +kernel
theorem d13_35 : decode (zbyt 13) 35 = .ok (.iadd, 1) := by decide +kernel
theorem d13_36 : decode (zbyt 13) 36 = .ok (.putfield 26, 3) := by decide +kernel
theorem d13_39 : decode (zbyt 13) 39 = .ok (.return_, 1) := by decide +kernel
theorem d14_0 : decode (zbyt 14) 0 = .ok (.aload_n 0, 1) := by decide +kernel
theorem d14_1 : decode (zbyt 14) 1 = .ok (.getfield 29, 3) := by decide +kernel
theorem d14_4 : decode (zbyt 14) 4 = .ok (.ifCond .lt 49, 3) := by decide +kernel
theorem d14_7 : decode (zbyt 14) 7 = .ok (.aload_n 0, 1) := by decide +kernel
theorem d14_8 : decode (zbyt 14) 8 = .ok (.getfield 29, 3) := by decide +kernel
theorem d14_11 : decode (zbyt 14) 11 = .ok (.aload_n 0, 1) := by decide +kernel
theorem d14_12 : decode (zbyt 14) 12 = .ok (.getfield 17, 3) := by decide +kernel
theorem d14_15 : decode (zbyt 14) 15 = .ok (.arraylength, 1) := by decide +kernel
theorem d14_16 : decode (zbyt 14) 16 = .ok (.if_icmp .ge 37, 3) := by decide +kernel
theorem d14_19 : decode (zbyt 14) 19 = .ok (.aload_n 0, 1) := by decide +kernel
theorem d14_20 : decode (zbyt 14) 20 = .ok (.getfield 17, 3) := by decide +kernel
theorem d14_23 : decode (zbyt 14) 23 = .ok (.aload_n 0, 1) := by decide +kernel
theorem d14_24 : decode (zbyt 14) 24 = .ok (.getfield 29, 3) := by decide +kernel
theorem d14_27 : decode (zbyt 14) 27 = .ok (.aaload, 1) := by decide +kernel
theorem d14_28 : decode (zbyt 14) 28 = .ok (.astore 4, 2) := by decide +kernel
theorem d14_30 : decode (zbyt 14) 30 = .ok (.aload 4, 2) := by decide +kernel
theorem d14_32 : decode (zbyt 14) 32 = .ok (.ifnull 21, 3) := by decide +kernel
theorem d14_35 : decode (zbyt 14) 35 = .ok (.aload 4, 2) := by decide +kernel
theorem d14_37 : decode (zbyt 14) 37 = .ok (.iload_n 1, 1) := by decide +kernel
theorem d14_38 : decode (zbyt 14) 38 = .ok (.iload_n 2, 1) := by decide +kernel
theorem d14_39 : decode (zbyt 14) 39 = .ok (.iload_n 3, 1) := by decide +kernel
theorem d14_40 : decode (zbyt 14) 40 = .ok (.invokevirtual 35, 3) := by decide +kernel
theorem d14_43 : decode (zbyt 14) 43 = .ok (.aload_n 0, 1) := by decide +kernel
theorem d14_44 : decode (zbyt 14) 44 = .ok (.dup, 1) := by decide +kernel
theorem d14_45 : decode (zbyt 14) 45 = .ok (.getfield 29, 3) := by decide +kernel
theorem d14_48 : decode (zbyt 14) 48 = .ok (.iconst 1, 1) := by decide +kernel
theorem d14_49 : decode (zbyt 14) 49 = .ok (.iadd, 1) := by decide +kernel
theorem d14_50 : decode (zbyt 14) 50 = .ok (.putfield 29, 3) := by decide +kernel
theorem d14_53 : decode (zbyt 14) 53 = .ok (.return_, 1) := by decide +kernel
theorem d15_0 : decode (zbyt 15) 0 = .ok (.aload_n 0, 1) := by decide +kernel
theorem d15_1 : decode (zbyt 15) 1 = .ok (.aload_n 1, 1) := by decide +kernel
theorem d15_2 : decode (zbyt 15) 2 = .ok (.getfield 22, 3) := by decide +kernel
theorem d15_5 : decode (zbyt 15) 5 = .ok (.putfield 22, 3) := by decide +kernel
theorem d15_8 : decode (zbyt 15) 8 = .ok (.aload_n 0, 1) := by decide +kernel
theorem d15_9 : decode (zbyt 15) 9 = .ok (.aload_n 1, 1) := by decide +kernel
theorem d15_10 : decode (zbyt 15) 10 = .ok (.getfield 26, 3) := by decide +kernel
theorem d15_13 : decode (zbyt 15) 13 = .ok (.putfield 26, 3) := by decide +kernel
theorem d15_16 : decode (zbyt 15) 16 = .ok (.aload_n 0, 1) := by decide +kernel
theorem d15_17 : decode (zbyt 15) 17 = .ok (.aload_n 1, 1) := by decide +kernel
theorem d15_18 : decode (zbyt 15) 18 = .ok (.getfield 29, 3) := by decide +kernel
theorem d15_21 : decode (zbyt 15) 21 = .ok (.putfield 29, 3) := by decide +kernel
theorem d15_24 : decode (zbyt 15) 24 = .ok (.aload_n 0, 1) := by decide +kernel
theorem d15_25 : decode (zbyt 15) 25 = .ok (.aload_n 1, 1) := by decide +kernel
theorem d15_26 : decode (zbyt 15) 26 = .ok (.getfield 32, 3) := by decide +kernel
theorem d15_29 : decode (zbyt 15) 29 = .ok (.putfield 32, 3) := by decide +kernel
theorem d15_32 : decode (zbyt 15) 32 = .ok (.iconst 0, 1) := by decide +kernel
theorem d15_33 : decode (zbyt 15) 33 = .ok (.istore_n 2, 1) := by decide +kernel
theorem d15_34 : decode (zbyt 15) 34 = .ok (.iload_n 2, 1) := by decide +kernel
theorem d15_35 : decode (zbyt 15) 35 = .ok (.aload_n 0, 1) := by decide +kernel
theorem d15_36 : decode (zbyt 15) 36 = .ok (.getfield 9, 3) := by decide +kernel
theorem d15_39 : decode (zbyt 15) 39 = .ok (.arraylength, 1) := by decide +kernel
theorem d15_40 : decode (zbyt 15) 40 = .ok (.if_icmp .ge 30, 3) := by decide +kernel
theorem d15_43 : decode (zbyt 15) 43 = .ok (.iload_n 2, 1) := by decide +kernel
theorem d15_44 : decode (zbyt 15) 44 = .ok (.aload_n 1, 1) := by decide +kernel
theorem d15_45 : decode (zbyt 15) 45 = .ok (.getfield 9, 3) := by decide +kernel
theorem d15_48 : decode (zbyt 15) 48 = .ok (.arraylength, 1) := by decide +kernel
theorem d15_49 : decode (zbyt 15) 49 = .ok (.if_icmp .ge 21, 3) := by decide +kernel
theorem d15_52 : decode (zbyt 15) 52 = .ok (.aload_n 0, 1) := by decide +kernel
theorem d15_53 : decode (zbyt 15) 53 = .ok (.getfield 9, 3) := by decide +kernel
theorem d15_56 : decode (zbyt 15) 56 = .ok (.iload_n 2, 1) := by decide +kernel
theorem d15_57 : decode (zbyt 15) 57 = .ok (.aload_n 1, 1) := by decide +kernel
theorem d15_58 : decode (zbyt 15) 58 = .ok (.getfield 9, 3) := by decide +kernel
theorem d15_61 : decode (zbyt 15) 61 = .ok (.iload_n 2, 1) := by decide +kernel
theorem d15_62 : decode (zbyt 15) 62 = .ok (.iaload, 1) := by decide +kernel
theorem d15_63 : decode (zbyt 15) 63 = .ok (.iastore, 1) := by decide +kernel
theorem d15_64 : decode (zbyt 15) 64 = .ok (.iinc 2 1, 3) := by decide +kernel
theorem d15_67 : decode (zbyt 15) 67 = .ok (.goto (-33), 3) := by decide +kernel
theorem d15_70 : decode (zbyt 15) 70 = .ok (.iconst 0, 1) := by decide +kernel
theorem d15_71 : decode (zbyt 15) 71 = .ok (.istore_n 2, 1) := by decide +kernel
theorem d15_72 : decode (zbyt 15) 72 = .ok (.iload_n 2, 1) := by decide +kernel
theorem d15_73 : decode (zbyt 15) 73 = .ok (.aload_n 0, 1) := by decide +kernel
theorem d15_74 : decode (zbyt 15) 74 = .ok (.getfield 17, 3) := by decide +kernel
theorem d15_77 : decode (zbyt 15) 77 = .ok (.arraylength, 1) := by decide +kernel
theorem d15_78 : decode (zbyt 15) 78 = .ok (.if_icmp .ge 48, 3) := by decide +kernel
theorem d15_81 : decode (zbyt 15) 81 = .ok (.iload_n 2, 1) := by decide +kernel
theorem d15_82 : decode (zbyt 15) 82 = .ok (.aload_n 1, 1) := by decide +kernel
theorem d15_83 : decode (zbyt 15) 83 = .ok (.getfield 17, 3) := by decide +kernel
theorem d15_86 : decode (zbyt 15) 86 = .ok (.arraylength, 1) := by decide +kernel
theorem d15_87 : decode (zbyt 15) 87 = .ok (.if_icmp .ge 39, 3) := by decide +kernel
theorem d15_90 : decode (zbyt 15) 90 = .ok (.aload_n 0, 1) := by decide +kernel
theorem d15_91 : decode (zbyt 15) 91 = .ok (.getfield 17, 3) := by decide +kernel
theorem d15_94 : decode (zbyt 15) 94 = .ok (.iload_n 2, 1) := by decide +kernel
theorem d15_95 : decode (zbyt 15) 95 = .ok (.aaload, 1) := by decide +kernel
theorem d15_96 : decode (zbyt 15) 96 = .ok (.astore_n 3, 1) := by decide +kernel
theorem d15_97 : decode (zbyt 15) 97 = .ok (.aload_n 1, 1) := by decide +kernel
theorem d15_98 : decode (zbyt 15) 98 = .ok (.getfield 17, 3) := by decide +kernel
theorem d15_101 : decode (zbyt 15) 101 = .ok (.iload_n 2, 1) := by decide +kernel
theorem d15_102 : decode (zbyt 15) 102 = .ok (.aaload, 1) := by decide +kernel
theorem d15_103 : decode (zbyt 15) 103 = .ok (.astore 4, 2) := by decide +kernel
theorem d15_105 : decode (zbyt 15) 105 = .ok (.aload_n 3, 1) := by decide +kernel
theorem d15_106 : decode (zbyt 15) 106 = .ok (.ifnull 14, 3) := by decide +kernel
theorem d15_109 : decode (zbyt 15) 109 = .ok (.aload 4, 2) := by decide +kernel
theorem d15_111 : decode (zbyt 15) 111 = .ok (.ifnull 9, 3) := by decide +kernel
theorem d15_114 : decode (zbyt 15) 114 = .ok (.aload_n 3, 1) := by decide +kernel
theorem d15_115 : decode (zbyt 15) 115 = .ok (.aload 4, 2) := by decide +kernel
theorem d15_117 : decode (zbyt 15) 117 = .ok (.invokevirtual 39, 3) := by decide +kernel
theorem d15_120 : decode (zbyt 15) 120 = .ok (.iinc 2 1, 3) := by decide +kernel
theorem d15_123 : decode (zbyt 15) 123 = .ok (.goto (-51), 3) := by decide +kernel
theorem d15_126 : decode (zbyt 15) 126 = .ok (.return_, 1) := by decide +kernel
theorem d16_0 : decode (zbyt 16) 0 = .ok (.iload_n 1, 1) := by decide +kernel
theorem d16_1 : decode (zbyt 16) 1 = .ok (.ifCond .lt 29, 3) := by decide +kernel
theorem d16_4 : decode (zbyt 16) 4 = .ok (.iload_n 1, 1) := by decide +kernel
theorem d16_5 : decode (zbyt 16) 5 = .ok (.aload_n 0, 1) := by decide +kernel
theorem d16_6 : decode (zbyt 16) 6 = .ok (.getfield 29, 3) := by decide +kernel
theorem d16_9 : decode (zbyt 16) 9 = .ok (.if_icmp .ge 21, 3) := by decide +kernel
theorem d16_12 : decode (zbyt 16) 12 = .ok (.iload_n 1, 1) := by decide +kernel
theorem d16_13 : decode (zbyt 16) 13 = .ok (.aload_n 0, 1) := by decide +kernel
theorem d16_14 : decode (zbyt 16) 14 = .ok (.getfield 17, 3) := by decide +kernel
theorem d16_17 : decode (zbyt 16) 17 = .ok (.arraylength, 1) := by decide +kernel
theorem d16_18 : decode (zbyt 16) 18 = .ok (.if_icmp .ge 12, 3) := by decide +kernel
theorem d16_21 : decode (zbyt 16) 21 = .ok (.aload_n 0, 1) := by decide +kernel
theorem d16_22 : decode (zbyt 16) 22 = .ok (.getfield 17, 3) := by decide +kernel
theorem d16_25 : decode (zbyt 16) 25 = .ok (.iload_n 1, 1) := by decide +kernel
theorem d16_26 : decode (zbyt 16) 26 = .ok (.aaload, 1) := by decide +kernel
theorem d16_27 : decode (zbyt 16) 27 = .ok (.goto 4, 3) := by decide +kernel
theorem d16_30 : decode (zbyt 16) 30 = .ok (.aconst_null, 1) := by decide +kernel
theorem d16_31 : decode (zbyt 16) 31 = .ok (.areturn, 1) := by decide +kernel
theorem d17_0 : decode (zbyt 17) 0 = .ok (.iload_n 1, 1) := by decide +kernel
theorem d17_1 : decode (zbyt 17) 1 = .ok (.ifCond .lt 24, 3) := by decide +kernel
theorem d17_4 : decode (zbyt 17) 4 = .ok (.iload_n 1, 1) := by decide +kernel
theorem d17_5 : decode (zbyt 17) 5 = .ok (.aload_n 0, 1) := by decide +kernel
theorem d17_6 : decode (zbyt 17) 6 = .ok (.getfield 26, 3) := by decide +kernel
theorem d17_9 : decode (zbyt 17) 9 = .ok (.if_icmp .ge 16, 3) := by decide +kernel
theorem d17_12 : decode (zbyt 17) 12 = .ok (.iload_n 1, 1) := by decide +kernel
theorem d17_13 : decode (zbyt 17) 13 = .ok (.aload_n 0, 1) := by decide +kernel
theorem d17_14 : decode (zbyt 17) 14 = .ok (.getfield 9, 3) := by decide +kernel
theorem d17_17 : decode (zbyt 17) 17 = .ok (.arraylength, 1) := by decide +kernel
theorem d17_18 : decode (zbyt 17) 18 = .ok (.if_icmp .ge 7, 3) := by decide +kernel
theorem d17_21 : decode (zbyt 17) 21 = .ok (.iconst 1, 1) := by decide +kernel
theorem d17_22 : decode (zbyt 17) 22 = .ok (.goto 4, 3) := by decide +kernel
theorem d17_25 : decode (zbyt 17) 25 = .ok (.iconst 0, 1) := by decide +kernel
theorem d17_26 : decode (zbyt 17) 26 = .ok (.ireturn, 1) := by decide +kernel
theorem d18_0 : decode (zbyt 18) 0 = .ok (.aload_n 0, 1) := by decide +kernel
theorem d18_1 : decode (zbyt 18) 1 = .ok (.iload_n 1, 1) := by decide +kernel
theorem d18_2 : decode (zbyt 18) 2 = .ok (.invokevirtual 43, 3) := by decide +kernel
theorem d18_5 : decode (zbyt 18) 5 = .ok (.ifCond .eq 12, 3) := by decide +kernel
theorem d18_8 : decode (zbyt 18) 8 = .ok (.aload_n 0, 1) := by decide +kernel
theorem d18_9 : decode (zbyt 18) 9 = .ok (.getfield 9, 3) := by decide +kernel
theorem d18_12 : decode (zbyt 18) 12 = .ok (.iload_n 1, 1) := by decide +kernel
theorem d18_13 : decode (zbyt 18) 13 = .ok (.iaload, 1) := by decide +kernel
theorem d18_14 : decode (zbyt 18) 14 = .ok (.goto 5, 3) := by decide +kernel
theorem d18_17 : decode (zbyt 18) 17 = .ok (.bipush (-9), 2) := by decide +kernel
theorem d18_19 : decode (zbyt 18) 19 = .ok (.ireturn, 1) := by decide +kernel
theorem d19_0 : decode (zbyt 19) 0 = .ok (.aload_n 1, 1) := by decide +kernel
theorem d19_1 : decode (zbyt 19) 1 = .ok (.getfield 47, 3) := by decide +kernel
theorem d19_4 : decode (zbyt 19) 4 = .ok (.aload_n 0, 1) := by decide +kernel
theorem d19_5 : decode (zbyt 19) 5 = .ok (.getfield 22, 3) := by decide +kernel
theorem d19_8 : decode (zbyt 19) 8 = .ok (.invokestatic 50, 3) := by decide +kernel
theorem d19_11 : decode (zbyt 19) 11 = .ok (.ireturn, 1) := by decide +kernel
theorem d20_0 : decode (zbyt 20) 0 = .ok (.aload_n 0, 1) := by decide +kernel
theorem d20_1 : decode (zbyt 20) 1 = .ok (.aload_n 0, 1) := by decide +kernel
theorem d20_2 : decode (zbyt 20) 2 = .ok (.aload_n 1, 1) := by decide +kernel
theorem d20_3 : decode (zbyt 20) 3 = .ok (.invokevirtual 54, 3) := by decide +kernel
theorem d20_6 : decode (zbyt 20) 6 = .ok (.invokevirtual 58, 3) := by decide +kernel
theorem d20_9 : decode (zbyt 20) 9 = .ok (.ireturn, 1) := by decide +kernel
theorem d21_0 : decode (zbyt 21) 0 = .ok (.bipush (-9), 2) := by decide +kernel
theorem d21_2 : decode (zbyt 21) 2 = .ok (.istore_n 2, 1) := by decide +kernel
theorem d21_3 : decode (zbyt 21) 3 = .ok (.iconst 0, 1) := by decide +kernel
theorem d21_4 : decode (zbyt 21) 4 = .ok (.istore_n 3, 1) := by decide +kernel
theorem d21_5 : decode (zbyt 21) 5 = .ok (.iconst 0, 1) := by decide +kernel
theorem d21_6 : decode (zbyt 21) 6 = .ok (.istore 4, 2) := by decide +kernel
theorem d21_8 : decode (zbyt 21) 8 = .ok (.iload 4, 2) := by decide +kernel
theorem d21_10 : decode (zbyt 21) 10 = .ok (.aload_n 0, 1) := by decide +kernel
theorem d21_11 : decode (zbyt 21) 11 = .ok (.getfield 26, 3) := by decide +kernel
theorem d21_14 : decode (zbyt 21) 14 = .ok (.if_icmp .ge 52, 3) := by decide +kernel
theorem d21_17 : decode (zbyt 21) 17 = .ok (.iload 4, 2) := by decide +kernel
theorem d21_19 : decode (zbyt 21) 19 = .ok (.aload_n 0, 1) := by decide +kernel
theorem d21_20 : decode (zbyt 21) 20 = .ok (.getfield 9, 3) := by decide +kernel
theorem d21_23 : decode (zbyt 21) 23 = .ok (.arraylength, 1) := by decide +kernel
theorem d21_24 : decode (zbyt 21) 24 = .ok (.if_icmp .ge 42, 3) := by decide +kernel
theorem d21_27 : decode (zbyt 21) 27 = .ok (.aload_n 0, 1) := by decide +kernel
theorem d21_28 : decode (zbyt 21) 28 = .ok (.getfield 9, 3) := by decide +kernel
theorem d21_31 : decode (zbyt 21) 31 = .ok (.iload 4, 2) := by decide +kernel
theorem d21_33 : decode (zbyt 21) 33 = .ok (.iaload, 1) := by decide +kernel
theorem d21_34 : decode (zbyt 21) 34 = .ok (.iload_n 1, 1) := by decide +kernel
theorem d21_35 : decode (zbyt 21) 35 = .ok (.if_icmp .gt 25, 3) := by decide +kernel
theorem d21_38 : decode (zbyt 21) 38 = .ok (.aload_n 0, 1) := by decide +kernel
theorem d21_39 : decode (zbyt 21) 39 = .ok (.getfield 9, 3) := by decide +kernel
theorem d21_42 : decode (zbyt 21) 42 = .ok (.iload 4, 2) := by decide +kernel
theorem d21_44 : decode (zbyt 21) 44 = .ok (.iaload, 1) := by decide +kernel
theorem d21_45 : decode (zbyt 21) 45 = .ok (.iload_n 3, 1) := by decide +kernel
theorem d21_46 : decode (zbyt 21) 46 = .ok (.if_icmp .le 14, 3) := by decide +kernel
theorem d21_49 : decode (zbyt 21) 49 = .ok (.iload 4, 2) := by decide +kernel
theorem d21_51 : decode (zbyt 21) 51 = .ok (.istore_n 2, 1) := by decide +kernel
theorem d21_52 : decode (zbyt 21) 52 = .ok (.aload_n 0, 1) := by decide +kernel
theorem d21_53 : decode (zbyt 21) 53 = .ok (.getfield 9, 3) := by decide +kernel
theorem d21_56 : decode (zbyt 21) 56 = .ok (.iload 4, 2) := by decide +kernel
theorem d21_58 : decode (zbyt 21) 58 = .ok (.iaload, 1) := by decide +kernel
theorem d21_59 : decode (zbyt 21) 59 = .ok (.istore_n 3, 1) := by decide +kernel
theorem d21_60 : decode (zbyt 21) 60 = .ok (.iinc 4 1, 3) := by decide +kernel
theorem d21_63 : decode (zbyt 21) 63 = .ok (.goto (-55), 3) := by decide +kernel
theorem d21_66 : decode (zbyt 21) 66 = .ok (.iload_n 2, 1) := by decide +kernel
theorem d21_67 : decode (zbyt 21) 67 = .ok (.ireturn, 1) := by decide +kernel
theorem d22_0 : decode (zbyt 22) 0 = .ok (.aload_n 0, 1) := by decide +kernel
theorem d22_1 : decode (zbyt 22) 1 = .ok (.iload_n 1, 1) := by decide +kernel
theorem d22_2 : decode (zbyt 22) 2 = .ok (.invokevirtual 62, 3) := by decide +kernel
theorem d22_5 : decode (zbyt 22) 5 = .ok (.astore_n 3, 1) := by decide +kernel
theorem d22_6 : decode (zbyt 22) 6 = .ok (.aload_n 0, 1) := by decide +kernel
theorem d22_7 : decode (zbyt 22) 7 = .ok (.iload_n 2, 1) := by decide +kernel
theorem d22_8 : decode (zbyt 22) 8 = .ok (.invokevirtual 62, 3) := by decide +kernel
theorem d22_11 : decode (zbyt 22) 11 = .ok (.astore 4, 2) := by decide +kernel
theorem d22_13 : decode (zbyt 22) 13 = .ok (.aload_n 3, 1) := by decide +kernel
theorem d22_14 : decode (zbyt 22) 14 = .ok (.ifnull 8, 3) := by decide +kernel
theorem d22_17 : decode (zbyt 22) 17 = .ok (.aload 4, 2) := by decide +kernel
theorem d22_19 : decode (zbyt 22) 19 = .ok (.ifnonnull 5, 3) := by decide +kernel
theorem d22_22 : decode (zbyt 22) 22 = .ok (.iconst 0, 1) := by decide +kernel
theorem d22_23 : decode (zbyt 22) 23 = .ok (.ireturn, 1) := by decide +kernel
theorem d22_24 : decode (zbyt 22) 24 = .ok (.aload_n 0, 1) := by decide +kernel
theorem d22_25 : decode (zbyt 22) 25 = .ok (.aload_n 3, 1) := by decide +kernel
theorem d22_26 : decode (zbyt 22) 26 = .ok (.invokevirtual 66, 3) := by decide +kernel
theorem d22_29 : decode (zbyt 22) 29 = .ok (.istore 5, 2) := by decide +kernel
theorem d22_31 : decode (zbyt 22) 31 = .ok (.iload 5, 2) := by decide +kernel
theorem d22_33 : decode (zbyt 22) 33 = .ok (.bipush (-9), 2) := by decide +kernel
theorem d22_35 : decode (zbyt 22) 35 = .ok (.if_icmp .eq 18, 3) := by decide +kernel
theorem d22_38 : decode (zbyt 22) 38 = .ok (.iload 5, 2) := by decide +kernel
theorem d22_40 : decode (zbyt 22) 40 = .ok (.aload_n 0, 1) := by decide +kernel
theorem d22_41 : decode (zbyt 22) 41 = .ok (.aload 4, 2) := by decide +kernel
theorem d22_43 : decode (zbyt 22) 43 = .ok (.invokevirtual 66, 3) := by decide +kernel
theorem d22_46 : decode (zbyt 22) 46 = .ok (.if_icmp .ne 7, 3) := by decide +kernel
theorem d22_49 : decode (zbyt 22) 49 = .ok (.iconst 1, 1) := by decide +kernel
theorem d22_50 : decode (zbyt 22) 50 = .ok (.goto 4, 3) := by decide +kernel
theorem d22_53 : decode (zbyt 22) 53 = .ok (.iconst 0, 1) := by decide +kernel
theorem d22_54 : decode (zbyt 22) 54 = .ok (.ireturn, 1) := by decide +kernel
theorem d23_0 : decode (zbyt 23) 0 = .ok (.iconst 0, 1) := by decide +kernel
theorem d23_1 : decode (zbyt 23) 1 = .ok (.istore_n 1, 1) := by decide +kernel
theorem d23_2 : decode (zbyt 23) 2 = .ok (.iconst 0, 1) := by decide +kernel
theorem d23_3 : decode (zbyt 23) 3 = .ok (.istore_n 2, 1) := by decide +kernel
theorem d23_4 : decode (zbyt 23) 4 = .ok (.iload_n 2, 1) := by decide +kernel
theorem d23_5 : decode (zbyt 23) 5 = .ok (.aload_n 0, 1) := by decide +kernel
theorem d23_6 : decode (zbyt 23) 6 = .ok (.getfield 29, 3) := by decide +kernel
theorem d23_9 : decode (zbyt 23) 9 = .ok (.if_icmp .ge 32, 3) := by decide +kernel
theorem d23_12 : decode (zbyt 23) 12 = .ok (.aload_n 0, 1) := by decide +kernel
theorem d23_13 : decode (zbyt 23) 13 = .ok (.iload_n 2, 1) := by decide +kernel
theorem d23_14 : decode (zbyt 23) 14 = .ok (.invokevirtual 62, 3) := by decide +kernel
theorem d23_17 : decode (zbyt 23) 17 = .ok (.astore_n 3, 1) := by decide +kernel
theorem d23_18 : decode (zbyt 23) 18 = .ok (.aload_n 3, 1) := by decide +kernel
theorem d23_19 : decode (zbyt 23) 19 = .ok (.ifnull 16, 3) := by decide +kernel
theorem d23_22 : decode (zbyt 23) 22 = .ok (.aload_n 0, 1) := by decide +kernel
theorem d23_23 : decode (zbyt 23) 23 = .ok (.aload_n 3, 1) := by decide +kernel
theorem d23_24 : decode (zbyt 23) 24 = .ok (.invokevirtual 66, 3) := by decide +kernel
theorem d23_27 : decode (zbyt 23) 27 = .ok (.bipush (-9), 2) := by decide +kernel
theorem d23_29 : decode (zbyt 23) 29 = .ok (.if_icmp .eq 6, 3) := by decide +kernel
theorem d23_32 : decode (zbyt 23) 32 = .ok (.iinc 1 1, 3) := by decide +kernel
theorem d23_35 : decode (zbyt 23) 35 = .ok (.iinc 2 1, 3) := by decide +kernel
theorem d23_38 : decode (zbyt 23) 38 = .ok (.goto (-34), 3) := by decide +kernel
theorem d23_41 : decode (zbyt 23) 41 = .ok (.iload_n 1, 1) := by decide +kernel
theorem d23_42 : decode (zbyt 23) 42 = .ok (.ireturn, 1) := by decide +kernel
theorem d24_0 : decode (zbyt 24) 0 = .ok (.iconst 0, 1) := by decide +kernel
theorem d24_1 : decode (zbyt 24) 1 = .ok (.istore_n 1, 1) := by decide +kernel
theorem d24_2 : decode (zbyt 24) 2 = .ok (.iconst 0, 1) := by decide +kernel
theorem d24_3 : decode (zbyt 24) 3 = .ok (.istore_n 2, 1) := by decide +kernel
theorem d24_4 : decode (zbyt 24) 4 = .ok (.iload_n 2, 1) := by decide +kernel
theorem d24_5 : decode (zbyt 24) 5 = .ok (.aload_n 0, 1) := by decide +kernel
theorem d24_6 : decode (zbyt 24) 6 = .ok (.getfield 29, 3) := by decide +kernel
theorem d24_9 : decode (zbyt 24) 9 = .ok (.if_icmp .ge 49, 3) := by decide +kernel
theorem d24_12 : decode (zbyt 24) 12 = .ok (.aload_n 0, 1) := by decide +kernel
theorem d24_13 : decode (zbyt 24) 13 = .ok (.iload_n 2, 1) := by decide +kernel
theorem d24_14 : decode (zbyt 24) 14 = .ok (.invokevirtual 62, 3) := by decide +kernel
theorem d24_17 : decode (zbyt 24) 17 = .ok (.astore_n 3, 1) := by decide +kernel
theorem d24_18 : decode (zbyt 24) 18 = .ok (.aload_n 3, 1) := by decide +kernel
theorem d24_19 : decode (zbyt 24) 19 = .ok (.ifnonnull 8, 3) := by decide +kernel
theorem d24_22 : decode (zbyt 24) 22 = .ok (.bipush (-9), 2) := by decide +kernel
theorem d24_24 : decode (zbyt 24) 24 = .ok (.goto 12, 3) := by decide +kernel
theorem d24_27 : decode (zbyt 24) 27 = .ok (.aload_n 0, 1) := by decide +kernel
theorem d24_28 : decode (zbyt 24) 28 = .ok (.aload_n 0, 1) := by decide +kernel
theorem d24_29 : decode (zbyt 24) 29 = .ok (.aload_n 3, 1) := by decide +kernel
theorem d24_30 : decode (zbyt 24) 30 = .ok (.invokevirtual 54, 3) := by decide +kernel
theorem d24_33 : decode (zbyt 24) 33 = .ok (.invokevirtual 58, 3) := by decide +kernel
theorem d24_36 : decode (zbyt 24) 36 = .ok (.istore 4, 2) := by decide +kernel
theorem d24_38 : decode (zbyt 24) 38 = .ok (.iload 4, 2) := by decide +kernel
theorem d24_40 : decode (zbyt 24) 40 = .ok (.bipush (-9), 2) := by decide +kernel
theorem d24_42 : decode (zbyt 24) 42 = .ok (.if_icmp .eq 10, 3) := by decide +kernel
theorem d24_45 : decode (zbyt 24) 45 = .ok (.iload_n 1, 1) := by decide +kernel
theorem d24_46 : decode (zbyt 24) 46 = .ok (.iconst 1, 1) := by decide +kernel
theorem d24_47 : decode (zbyt 24) 47 = .ok (.iload 4, 2) := by decide +kernel
theorem d24_49 : decode (zbyt 24) 49 = .ok (.ishl, 1) := by decide +kernel
theorem d24_50 : decode (zbyt 24) 50 = .ok (.ior, 1) := by decide +kernel
theorem d24_51 : decode (zbyt 24) 51 = .ok (.istore_n 1, 1) := by decide +kernel
theorem d24_52 : decode (zbyt 24) 52 = .ok (.iinc 2 1, 3) := by decide +kernel
theorem d24_55 : decode (zbyt 24) 55 = .ok (.goto (-51), 3) := by decide +kernel
theorem d24_58 : decode (zbyt 24) 58 = .ok (.iload_n 1, 1) := by decide +kernel
theorem d24_59 : decode (zbyt 24) 59 = .ok (.ireturn, 1) := by decide +kernel
theorem d25_0 : decode (zbyt 25) 0 = .ok (.iconst 0, 1) := by decide +kernel
theorem d25_1 : decode (zbyt 25) 1 = .ok (.istore_n 1, 1) := by decide +kernel
theorem d25_2 : decode (zbyt 25) 2 = .ok (.iconst 0, 1) := by decide +kernel
theorem d25_3 : decode (zbyt 25) 3 = .ok (.istore_n 2, 1) := by decide +kernel
theorem d25_4 : decode (zbyt 25) 4 = .ok (.iload_n 2, 1) := by decide +kernel
theorem d25_5 : decode (zbyt 25) 5 = .ok (.aload_n 0, 1) := by decide +kernel
theorem d25_6 : decode (zbyt 25) 6 = .ok (.getfield 29, 3) := by decide +kernel
theorem d25_9 : decode (zbyt 25) 9 = .ok (.if_icmp .ge 32, 3) := by decide +kernel
theorem d25_12 : decode (zbyt 25) 12 = .ok (.aload_n 0, 1) := by decide +kernel
theorem d25_13 : decode (zbyt 25) 13 = .ok (.iload_n 2, 1) := by decide +kernel
theorem d25_14 : decode (zbyt 25) 14 = .ok (.invokevirtual 62, 3) := by decide +kernel
theorem d25_17 : decode (zbyt 25) 17 = .ok (.astore_n 3, 1) := by decide +kernel
theorem d25_18 : decode (zbyt 25) 18 = .ok (.aload_n 3, 1) := by decide +kernel
theorem d25_19 : decode (zbyt 25) 19 = .ok (.ifnull 16, 3) := by decide +kernel
theorem d25_22 : decode (zbyt 25) 22 = .ok (.aload_n 3, 1) := by decide +kernel
theorem d25_23 : decode (zbyt 25) 23 = .ok (.getfield 69, 3) := by decide +kernel
theorem d25_26 : decode (zbyt 25) 26 = .ok (.ifCond .eq 9, 3) := by decide +kernel
theorem d25_29 : decode (zbyt 25) 29 = .ok (.iload_n 1, 1) := by decide +kernel
theorem d25_30 : decode (zbyt 25) 30 = .ok (.iconst 1, 1) := by decide +kernel
theorem d25_31 : decode (zbyt 25) 31 = .ok (.iload_n 2, 1) := by decide +kernel
theorem d25_32 : decode (zbyt 25) 32 = .ok (.ishl, 1) := by decide +kernel
theorem d25_33 : decode (zbyt 25) 33 = .ok (.ior, 1) := by decide +kernel
theorem d25_34 : decode (zbyt 25) 34 = .ok (.istore_n 1, 1) := by decide +kernel
theorem d25_35 : decode (zbyt 25) 35 = .ok (.iinc 2 1, 3) := by decide +kernel
theorem d25_38 : decode (zbyt 25) 38 = .ok (.goto (-34), 3) := by decide +kernel
theorem d25_41 : decode (zbyt 25) 41 = .ok (.iload_n 1, 1) := by decide +kernel
theorem d25_42 : decode (zbyt 25) 42 = .ok (.ireturn, 1) := by decide +kernel
theorem d26_0 : decode (zbyt 26) 0 = .ok (.iconst 0, 1) := by decide +kernel
theorem d26_1 : decode (zbyt 26) 1 = .ok (.istore_n 1, 1) := by decide +kernel
theorem d26_2 : decode (zbyt 26) 2 = .ok (.iconst 0, 1) := by decide +kernel
theorem d26_3 : decode (zbyt 26) 3 = .ok (.istore_n 2, 1) := by decide +kernel
theorem d26_4 : decode (zbyt 26) 4 = .ok (.iload_n 2, 1) := by decide +kernel
theorem d26_5 : decode (zbyt 26) 5 = .ok (.aload_n 0, 1) := by decide +kernel
theorem d26_6 : decode (zbyt 26) 6 = .ok (.getfield 29, 3) := by decide +kernel
theorem d26_9 : decode (zbyt 26) 9 = .ok (.if_icmp .ge 29, 3) := by decide +kernel
theorem d26_12 : decode (zbyt 26) 12 = .ok (.aload_n 0, 1) := by decide +kernel
theorem d26_13 : decode (zbyt 26) 13 = .ok (.iload_n 2, 1) := by decide +kernel
theorem d26_14 : decode (zbyt 26) 14 = .ok (.invokevirtual 62, 3) := by decide +kernel
theorem d26_17 : decode (zbyt 26) 17 = .ok (.astore_n 3, 1) := by decide +kernel
theorem d26_18 : decode (zbyt 26) 18 = .ok (.aload_n 3, 1) := by decide +kernel
theorem d26_19 : decode (zbyt 26) 19 = .ok (.ifnull 13, 3) := by decide +kernel
theorem d26_22 : decode (zbyt 26) 22 = .ok (.aload_n 3, 1) := by decide +kernel
theorem d26_23 : decode (zbyt 26) 23 = .ok (.invokevirtual 73, 3) := by decide +kernel
theorem d26_26 : decode (zbyt 26) 26 = .ok (.ifCond .eq 6, 3) := by decide +kernel
theorem d26_29 : decode (zbyt 26) 29 = .ok (.iinc 1 1, 3) := by decide +kernel
theorem d26_32 : decode (zbyt 26) 32 = .ok (.iinc 2 1, 3) := by decide +kernel
theorem d26_35 : decode (zbyt 26) 35 = .ok (.goto (-31), 3) := by decide +kernel
theorem d26_38 : decode (zbyt 26) 38 = .ok (.aload_n 0, 1) := by decide +kernel
theorem d26_39 : decode (zbyt 26) 39 = .ok (.dup, 1) := by decide +kernel
theorem d26_40 : decode (zbyt 26) 40 = .ok (.getfield 32, 3) := by decide +kernel
theorem d26_43 : decode (zbyt 26) 43 = .ok (.iconst 1, 1) := by decide +kernel
theorem d26_44 : decode (zbyt 26) 44 = .ok (.iadd, 1) := by decide +kernel
theorem d26_45 : decode (zbyt 26) 45 = .ok (.putfield 32, 3) := by decide +kernel
theorem d26_48 : decode (zbyt 26) 48 = .ok (.iload_n 1, 1) := by decide +kernel
theorem d26_49 : decode (zbyt 26) 49 = .ok (.ireturn, 1) := by decide +kernel
theorem d27_0 : decode (zbyt 27) 0 = .ok (.iconst 1, 1) := by decide +kernel
theorem d27_1 : decode (zbyt 27) 1 = .ok (.istore_n 3, 1) := by decide +kernel
theorem d27_2 : decode (zbyt 27) 2 = .ok (.iload_n 3, 1) := by decide +kernel
theorem d27_3 : decode (zbyt 27) 3 = .ok (.aload_n 1, 1) := by decide +kernel
theorem d27_4 : decode (zbyt 27) 4 = .ok (.getfield 77, 3) := by decide +kernel
theorem d27_7 : decode (zbyt 27) 7 = .ok (.if_icmp .gt 25, 3) := by decide +kernel
theorem d27_10 : decode (zbyt 27) 10 = .ok (.aload_n 0, 1) := by decide +kernel
theorem d27_11 : decode (zbyt 27) 11 = .ok (.aload_n 1, 1) := by decide +kernel
theorem d27_12 : decode (zbyt 27) 12 = .ok (.iload_n 3, 1) := by decide +kernel
theorem d27_13 : decode (zbyt 27) 13 = .ok (.invokevirtual 80, 3) := by decide +kernel
theorem d27_16 : decode (zbyt 27) 16 = .ok (.aload_n 0, 1) := by decide +kernel
theorem d27_17 : decode (zbyt 27) 17 = .ok (.iload_n 2, 1) := by decide +kernel
theorem d27_18 : decode (zbyt 27) 18 = .ok (.invokevirtual 84, 3) := by decide +kernel
theorem d27_21 : decode (zbyt 27) 21 = .ok (.if_icmp .lt 5, 3) := by decide +kernel
theorem d27_24 : decode (zbyt 27) 24 = .ok (.iload_n 3, 1) := by decide +kernel
theorem d27_25 : decode (zbyt 27) 25 = .ok (.ireturn, 1) := by decide +kernel
theorem d27_26 : decode (zbyt 27) 26 = .ok (.iinc 3 1, 3) := by decide +kernel
theorem d27_29 : decode (zbyt 27) 29 = .ok (.goto (-27), 3) := by decide +kernel
theorem d27_32 : decode (zbyt 27) 32 = .ok (.bipush (-9), 2) := by decide +kernel
theorem d27_34 : decode (zbyt 27) 34 = .ok (.ireturn, 1) := by decide +kernel
theorem d28_0 : decode (zbyt 28) 0 = .ok (.iload_n 2, 1) := by decide +kernel
theorem d28_1 : decode (zbyt 28) 1 = .ok (.aload_n 1, 1) := by decide +kernel
theorem d28_2 : decode (zbyt 28) 2 = .ok (.getfield 87, 3) := by decide +kernel
theorem d28_5 : decode (zbyt 28) 5 = .ok (.aload_n 1, 1) := by decide +kernel
theorem d28_6 : decode (zbyt 28) 6 = .ok (.getfield 90, 3) := by decide +kernel
theorem d28_9 : decode (zbyt 28) 9 = .ok (.invokestatic 93, 3) := by decide +kernel
theorem d28_12 : decode (zbyt 28) 12 = .ok (.imul, 1) := by decide +kernel
theorem d28_13 : decode (zbyt 28) 13 = .ok (.aload_n 0, 1) := by decide +kernel
theorem d28_14 : decode (zbyt 28) 14 = .ok (.getfield 22, 3) := by decide +kernel
theorem d28_17 : decode (zbyt 28) 17 = .ok (.invokestatic 50, 3) := by decide +kernel
theorem d28_20 : decode (zbyt 28) 20 = .ok (.ireturn, 1) := by decide +kernel
theorem d29_0 : decode (zbyt 29) 0 = .ok (.iconst 0, 1) := by decide +kernel
theorem d29_1 : decode (zbyt 29) 1 = .ok (.istore_n 2, 1) := by decide +kernel
theorem d29_2 : decode (zbyt 29) 2 = .ok (.iconst 0, 1) := by decide +kernel
theorem d29_3 : decode (zbyt 29) 3 = .ok (.istore_n 3, 1) := by decide +kernel
theorem d29_4 : decode (zbyt 29) 4 = .ok (.iload_n 3, 1) := by decide +kernel
theorem d29_5 : decode (zbyt 29) 5 = .ok (.aload_n 0, 1) := by decide +kernel
theorem d29_6 : decode (zbyt 29) 6 = .ok (.getfield 29, 3) := by decide +kernel
theorem d29_9 : decode (zbyt 29) 9 = .ok (.if_icmp .ge 52, 3) := by decide +kernel
theorem d29_12 : decode (zbyt 29) 12 = .ok (.aload_n 0, 1) := by decide +kernel
theorem d29_13 : decode (zbyt 29) 13 = .ok (.iload_n 3, 1) := by decide +kernel
theorem d29_14 : decode (zbyt 29) 14 = .ok (.invokevirtual 62, 3) := by decide +kernel
theorem d29_17 : decode (zbyt 29) 17 = .ok (.astore 4, 2) := by decide +kernel
theorem d29_19 : decode (zbyt 29) 19 = .ok (.aload 4, 2) := by decide +kernel
theorem d29_21 : decode (zbyt 29) 21 = .ok (.ifnonnull 8, 3) := by decide +kernel
theorem d29_24 : decode (zbyt 29) 24 = .ok (.bipush (-9), 2) := by decide +kernel
theorem d29_26 : decode (zbyt 29) 26 = .ok (.goto 10, 3) := by decide +kernel
theorem d29_29 : decode (zbyt 29) 29 = .ok (.aload_n 0, 1) := by decide +kernel
theorem d29_30 : decode (zbyt 29) 30 = .ok (.aload 4, 2) := by decide +kernel
theorem d29_32 : decode (zbyt 29) 32 = .ok (.iload_n 1, 1) := by decide +kernel
theorem d29_33 : decode (zbyt 29) 33 = .ok (.invokevirtual 96, 3) := by decide +kernel
theorem d29_36 : decode (zbyt 29) 36 = .ok (.istore 5, 2) := by decide +kernel
theorem d29_38 : decode (zbyt 29) 38 = .ok (.iload 5, 2) := by decide +kernel
theorem d29_40 : decode (zbyt 29) 40 = .ok (.bipush (-9), 2) := by decide +kernel
theorem d29_42 : decode (zbyt 29) 42 = .ok (.if_icmp .ne 6, 3) := by decide +kernel
theorem d29_45 : decode (zbyt 29) 45 = .ok (.bipush (-9), 2) := by decide +kernel
theorem d29_47 : decode (zbyt 29) 47 = .ok (.ireturn, 1) := by decide +kernel
theorem d29_48 : decode (zbyt 29) 48 = .ok (.iload_n 2, 1) := by decide +kernel
theorem d29_49 : decode (zbyt 29) 49 = .ok (.iload 5, 2) := by decide +kernel
theorem d29_51 : decode (zbyt 29) 51 = .ok (.invokestatic 99, 3) := by decide +kernel
theorem d29_54 : decode (zbyt 29) 54 = .ok (.istore_n 2, 1) := by decide +kernel
theorem d29_55 : decode (zbyt 29) 55 = .ok (.iinc 3 1, 3) := by decide +kernel
theorem d29_58 : decode (zbyt 29) 58 = .ok (.goto (-54), 3) := by decide +kernel
theorem d29_61 : decode (zbyt 29) 61 = .ok (.iload_n 2, 1) := by decide +kernel
theorem d29_62 : decode (zbyt 29) 62 = .ok (.ireturn, 1) := by decide +kernel
theorem d30_0 : decode (zbyt 30) 0 = .ok (.iconst 0, 1) := by decide +kernel
theorem d30_1 : decode (zbyt 30) 1 = .ok (.istore_n 2, 1) := by decide +kernel
theorem d30_2 : decode (zbyt 30) 2 = .ok (.iconst 0, 1) := by decide +kernel
theorem d30_3 : decode (zbyt 30) 3 = .ok (.istore_n 3, 1) := by decide +kernel
theorem d30_4 : decode (zbyt 30) 4 = .ok (.iload_n 3, 1) := by decide +kernel
theorem d30_5 : decode (zbyt 30) 5 = .ok (.aload_n 0, 1) := by decide +kernel
theorem d30_6 : decode (zbyt 30) 6 = .ok (.getfield 29, 3) := by decide +kernel
theorem d30_9 : decode (zbyt 30) 9 = .ok (.if_icmp .ge 39, 3) := by decide +kernel
theorem d30_12 : decode (zbyt 30) 12 = .ok (.aload_n 0, 1) := by decide +kernel
theorem d30_13 : decode (zbyt 30) 13 = .ok (.iload_n 3, 1) := by decide +kernel
theorem d30_14 : decode (zbyt 30) 14 = .ok (.invokevirtual 62, 3) := by decide +kernel
theorem d30_17 : decode (zbyt 30) 17 = .ok (.astore 4, 2) := by decide +kernel
theorem d30_19 : decode (zbyt 30) 19 = .ok (.aload 4, 2) := by decide +kernel
theorem d30_21 : decode (zbyt 30) 21 = .ok (.ifnull 21, 3) := by decide +kernel
theorem d30_24 : decode (zbyt 30) 24 = .ok (.iload_n 1, 1) := by decide +kernel
theorem d30_25 : decode (zbyt 30) 25 = .ok (.iload_n 3, 1) := by decide +kernel
theorem d30_26 : decode (zbyt 30) 26 = .ok (.ishr, 1) := by decide +kernel
theorem d30_27 : decode (zbyt 30) 27 = .ok (.iconst 1, 1) := by decide +kernel
theorem d30_28 : decode (zbyt 30) 28 = .ok (.iand, 1) := by decide +kernel
theorem d30_29 : decode (zbyt 30) 29 = .ok (.iconst 1, 1) := by decide +kernel
theorem d30_30 : decode (zbyt 30) 30 = .ok (.if_icmp .ne 12, 3) := by decide +kernel
theorem d30_33 : decode (zbyt 30) 33 = .ok (.iload_n 2, 1) := by decide +kernel
theorem d30_34 : decode (zbyt 30) 34 = .ok (.aload_n 0, 1) := by decide +kernel
theorem d30_35 : decode (zbyt 30) 35 = .ok (.aload 4, 2) := by decide +kernel
theorem d30_37 : decode (zbyt 30) 37 = .ok (.invokevirtual 104, 3) := by decide +kernel
theorem d30_40 : decode (zbyt 30) 40 = .ok (.ior, 1) := by decide +kernel
theorem d30_41 : decode (zbyt 30) 41 = .ok (.istore_n 2, 1) := by decide +kernel
theorem d30_42 : decode (zbyt 30) 42 = .ok (.iinc 3 1, 3) := by decide +kernel
theorem d30_45 : decode (zbyt 30) 45 = .ok (.goto (-41), 3) := by decide +kernel
theorem d30_48 : decode (zbyt 30) 48 = .ok (.iload_n 2, 1) := by decide +kernel
theorem d30_49 : decode (zbyt 30) 49 = .ok (.ireturn, 1) := by decide +kernel
theorem d31_0 : decode (zbyt 31) 0 = .ok (.iconst 0, 1) := by decide +kernel
theorem d31_1 : decode (zbyt 31) 1 = .ok (.istore_n 2, 1) := by decide +kernel
theorem d31_2 : decode (zbyt 31) 2 = .ok (.iconst 0, 1) := by decide +kernel
theorem d31_3 : decode (zbyt 31) 3 = .ok (.istore_n 3, 1) := by decide +kernel
theorem d31_4 : decode (zbyt 31) 4 = .ok (.iload_n 3, 1) := by decide +kernel
theorem d31_5 : decode (zbyt 31) 5 = .ok (.aload_n 0, 1) := by decide +kernel
theorem d31_6 : decode (zbyt 31) 6 = .ok (.getfield 26, 3) := by decide +kernel
theorem d31_9 : decode (zbyt 31) 9 = .ok (.if_icmp .ge 26, 3) := by decide +kernel
theorem d31_12 : decode (zbyt 31) 12 = .ok (.aload_n 0, 1) := by decide +kernel
theorem d31_13 : decode (zbyt 31) 13 = .ok (.aload_n 1, 1) := by decide +kernel
theorem d31_14 : decode (zbyt 31) 14 = .ok (.iload_n 3, 1) := by decide +kernel
theorem d31_15 : decode (zbyt 31) 15 = .ok (.invokevirtual 96, 3) := by decide +kernel
theorem d31_18 : decode (zbyt 31) 18 = .ok (.bipush (-9), 2) := by decide +kernel
theorem d31_20 : decode (zbyt 31) 20 = .ok (.if_icmp .eq 9, 3) := by decide +kernel
theorem d31_23 : decode (zbyt 31) 23 = .ok (.iload_n 2, 1) := by decide +kernel
theorem d31_24 : decode (zbyt 31) 24 = .ok (.iconst 1, 1) := by decide +kernel
theorem d31_25 : decode (zbyt 31) 25 = .ok (.iload_n 3, 1) := by decide +kernel
theorem d31_26 : decode (zbyt 31) 26 = .ok (.ishl, 1) := by decide +kernel
theorem d31_27 : decode (zbyt 31) 27 = .ok (.ior, 1) := by decide +kernel
theorem d31_28 : decode (zbyt 31) 28 = .ok (.istore_n 2, 1) := by decide +kernel
theorem d31_29 : decode (zbyt 31) 29 = .ok (.iinc 3 1, 3) := by decide +kernel
theorem d31_32 : decode (zbyt 31) 32 = .ok (.goto (-28), 3) := by decide +kernel
theorem d31_35 : decode (zbyt 31) 35 = .ok (.iload_n 2, 1) := by decide +kernel
theorem d31_36 : decode (zbyt 31) 36 = .ok (.ireturn, 1) := by decide +kernel
theorem d32_0 : decode (zbyt 32) 0 = .ok (.iconst 0, 1) := by decide +kernel
theorem d32_1 : decode (zbyt 32) 1 = .ok (.istore_n 3, 1) := by decide +kernel
theorem d32_2 : decode (zbyt 32) 2 = .ok (.iconst 1, 1) := by decide +kernel
theorem d32_3 : decode (zbyt 32) 3 = .ok (.istore 4, 2) := by decide +kernel
theorem d32_5 : decode (zbyt 32) 5 = .ok (.iload 4, 2) := by decide +kernel
theorem d32_7 : decode (zbyt 32) 7 = .ok (.aload_n 1, 1) := by decide +kernel
theorem d32_8 : decode (zbyt 32) 8 = .ok (.getfield 77, 3) := by decide +kernel
theorem d32_11 : decode (zbyt 32) 11 = .ok (.if_icmp .gt 27, 3) := by decide +kernel
theorem d32_14 : decode (zbyt 32) 14 = .ok (.aload_n 0, 1) := by decide +kernel
theorem d32_15 : decode (zbyt 32) 15 = .ok (.aload_n 0, 1) := by decide +kernel
theorem d32_16 : decode (zbyt 32) 16 = .ok (.aload_n 1, 1) := by decide +kernel
theorem d32_17 : decode (zbyt 32) 17 = .ok (.iload 4, 2) := by decide +kernel
theorem d32_19 : decode (zbyt 32) 19 = .ok (.invokevirtual 80, 3) := by decide +kernel
theorem d32_22 : decode (zbyt 32) 22 = .ok (.invokevirtual 58, 3) := by decide +kernel
theorem d32_25 : decode (zbyt 32) 25 = .ok (.iload_n 2, 1) := by decide +kernel
theorem d32_26 : decode (zbyt 32) 26 = .ok (.if_icmp .ne 6, 3) := by decide +kernel
theorem d32_29 : decode (zbyt 32) 29 = .ok (.iinc 3 1, 3) := by decide +kernel
theorem d32_32 : decode (zbyt 32) 32 = .ok (.iinc 4 1, 3) := by decide +kernel
theorem d32_35 : decode (zbyt 32) 35 = .ok (.goto (-30), 3) := by decide +kernel
theorem d32_38 : decode (zbyt 32) 38 = .ok (.iload_n 3, 1) := by decide +kernel
theorem d32_39 : decode (zbyt 32) 39 = .ok (.ireturn, 1) := by decide +kernel
theorem d33_0 : decode (zbyt 33) 0 = .ok (.aload_n 0, 1) := by decide +kernel
theorem d33_1 : decode (zbyt 33) 1 = .ok (.invokespecial 3, 3) := by decide +kernel
theorem d33_4 : decode (zbyt 33) 4 = .ok (.aload_n 0, 1) := by decide +kernel
theorem d33_5 : decode (zbyt 33) 5 = .ok (.bipush 8, 2) := by decide +kernel
theorem d33_7 : decode (zbyt 33) 7 = .ok (.newarray .int, 2) := by decide +kernel
theorem d33_9 : decode (zbyt 33) 9 = .ok (.putfield 9, 3) := by decide +kernel
theorem d33_12 : decode (zbyt 33) 12 = .ok (.aload_n 0, 1) := by decide +kernel
theorem d33_13 : decode (zbyt 33) 13 = .ok (.bipush 8, 2) := by decide +kernel
theorem d33_15 : decode (zbyt 33) 15 = .ok (.newarray .int, 2) := by decide +kernel
theorem d33_17 : decode (zbyt 33) 17 = .ok (.putfield 15, 3) := by decide +kernel
theorem d33_20 : decode (zbyt 33) 20 = .ok (.aload_n 0, 1) := by decide +kernel
theorem d33_21 : decode (zbyt 33) 21 = .ok (.bipush 8, 2) := by decide +kernel
theorem d33_23 : decode (zbyt 33) 23 = .ok (.newarray .int, 2) := by decide +kernel
theorem d33_25 : decode (zbyt 33) 25 = .ok (.putfield 18, 3) := by decide +kernel
theorem d33_28 : decode (zbyt 33) 28 = .ok (.return_, 1) := by decide +kernel
theorem d34_0 : decode (zbyt 34) 0 = .ok (.aload_n 0, 1) := by decide +kernel
theorem d34_1 : decode (zbyt 34) 1 = .ok (.aload_n 0, 1) := by decide +kernel
theorem d34_2 : decode (zbyt 34) 2 = .ok (.getfield 21, 3) := by decide +kernel
theorem d34_5 : decode (zbyt 34) 5 = .ok (.invokevirtual 25, 3) := by decide +kernel
theorem d34_8 : decode (zbyt 34) 8 = .ok (.ifCond .eq 43, 3) := by decide +kernel
theorem d34_11 : decode (zbyt 34) 11 = .ok (.aload_n 0, 1) := by decide +kernel
theorem d34_12 : decode (zbyt 34) 12 = .ok (.getfield 9, 3) := by decide +kernel
theorem d34_15 : decode (zbyt 34) 15 = .ok (.aload_n 0, 1) := by decide +kernel
theorem d34_16 : decode (zbyt 34) 16 = .ok (.getfield 21, 3) := by decide +kernel
theorem d34_19 : decode (zbyt 34) 19 = .ok (.iload_n 1, 1) := by decide +kernel
theorem d34_20 : decode (zbyt 34) 20 = .ok (.iastore, 1) := by decide +kernel
theorem d34_21 : decode (zbyt 34) 21 = .ok (.aload_n 0, 1) := by decide +kernel
theorem d34_22 : decode (zbyt 34) 22 = .ok (.getfield 15, 3) := by decide +kernel
theorem d34_25 : decode (zbyt 34) 25 = .ok (.aload_n 0, 1) := by decide +kernel
theorem d34_26 : decode (zbyt 34) 26 = .ok (.getfield 21, 3) := by decide +kernel
theorem d34_29 : decode (zbyt 34) 29 = .ok (.iload_n 2, 1) := by decide +kernel
theorem d34_30 : decode (zbyt 34) 30 = .ok (.iastore, 1) := by decide +kernel
theorem d34_31 : decode (zbyt 34) 31 = .ok (.aload_n 0, 1) := by decide +kernel
theorem d34_32 : decode (zbyt 34) 32 = .ok (.getfield 18, 3) := by decide +kernel
theorem d34_35 : decode (zbyt 34) 35 = .ok (.aload_n 0, 1) := by decide +kernel
theorem d34_36 : decode (zbyt 34) 36 = .ok (.getfield 21, 3) := by decide +kernel
theorem d34_39 : decode (zbyt 34) 39 = .ok (.iload_n 3, 1) := by decide +kernel
theorem d34_40 : decode (zbyt 34) 40 = .ok (.iastore, 1) := by decide +kernel
theorem d34_41 : decode (zbyt 34) 41 = .ok (.aload_n 0, 1) := by decide +kernel
theorem d34_42 : decode (zbyt 34) 42 = .ok (.dup, 1) := by decide +kernel
theorem d34_43 : decode (zbyt 34) 43 = .ok (.getfield 21, 3) := by decide +kernel
theorem d34_46 : decode (zbyt 34) 46 = .ok (.iconst 1, 1) := by decide +kernel
theorem d34_47 : decode (zbyt 34) 47 = .ok (.iadd, 1) := by decide +kernel
theorem d34_48 : decode (zbyt 34) 48 = .ok (.putfield 21, 3) := by decide +kernel
theorem d34_51 : decode (zbyt 34) 51 = .ok (.return_, 1) := by decide +kernel
theorem d35_0 : decode (zbyt 35) 0 = .ok (.iconst 0, 1) := by decide +kernel
theorem d35_1 : decode (zbyt 35) 1 = .ok (.istore 6, 2) := by decide +kernel
theorem d35_3 : decode (zbyt 35) 3 = .ok (.iload 6, 2) := by decide +kernel
theorem d35_5 : decode (zbyt 35) 5 = .ok (.aload_n 0, 1) := by decide +kernel
theorem d35_6 : decode (zbyt 35) 6 = .ok (.getfield 21, 3) := by decide +kernel
theorem d35_9 : decode (zbyt 35) 9 = .ok (.if_icmp .ge 80, 3) := by decide +kernel
theorem d35_12 : decode (zbyt 35) 12 = .ok (.aload_n 0, 1) := by decide +kernel
theorem d35_13 : decode (zbyt 35) 13 = .ok (.iload 6, 2) := by decide +kernel
theorem d35_15 : decode (zbyt 35) 15 = .ok (.invokevirtual 25, 3) := by decide +kernel
theorem d35_18 : decode (zbyt 35) 18 = .ok (.ifCond .ne 5, 3) := by decide +kernel
theorem d35_21 : decode (zbyt 35) 21 = .ok (.iconst 0, 1) := by decide +kernel
theorem d35_22 : decode (zbyt 35) 22 = .ok (.ireturn, 1) := by decide +kernel
theorem d35_23 : decode (zbyt 35) 23 = .ok (.aload_n 0, 1) := by decide +kernel
theorem d35_24 : decode (zbyt 35) 24 = .ok (.getfield 9, 3) := by decide +kernel
theorem d35_27 : decode (zbyt 35) 27 = .ok (.iload 6, 2) := by decide +kernel
theorem d35_29 : decode (zbyt 35) 29 = .ok (.iaload, 1) := by decide +kernel
theorem d35_30 : decode (zbyt 35) 30 = .ok (.iload_n 2, 1) := by decide +kernel
theorem d35_31 : decode (zbyt 35) 31 = .ok (.if_icmp .ne 12, 3) := by decide +kernel
theorem d35_34 : decode (zbyt 35) 34 = .ok (.iload_n 3, 1) := by decide +kernel
theorem d35_35 : decode (zbyt 35) 35 = .ok (.iload 4, 2) := by decide +kernel
theorem d35_37 : decode (zbyt 35) 37 = .ok (.invokestatic 29, 3) := by decide +kernel
theorem d35_40 : decode (zbyt 35) 40 = .ok (.goto 14, 3) := by decide +kernel
theorem d35_43 : decode (zbyt 35) 43 = .ok (.aload_n 1, 1) := by decide +kernel
theorem d35_44 : decode (zbyt 35) 44 = .ok (.aload_n 0, 1) := by decide +kernel
theorem d35_45 : decode (zbyt 35) 45 = .ok (.getfield 9, 3) := by decide +kernel
theorem d35_48 : decode (zbyt 35) 48 = .ok (.iload 6, 2) := by decide +kernel
theorem d35_50 : decode (zbyt 35) 50 = .ok (.iaload, 1) := by decide +kernel
theorem d35_51 : decode (zbyt 35) 51 = .ok (.invokestatic 33, 3) := by decide +kernel
theorem d35_54 : decode (zbyt 35) 54 = .ok (.istore 7, 2) := by decide +kernel
theorem d35_56 : decode (zbyt 35) 56 = .ok (.iload 7, 2) := by decide +kernel
theorem d35_58 : decode (zbyt 35) 58 = .ok (.aload_n 0, 1) := by decide +kernel
theorem d35_59 : decode (zbyt 35) 59 = .ok (.getfield 15, 3) := by decide +kernel
theorem d35_62 : decode (zbyt 35) 62 = .ok (.iload 6, 2) := by decide +kernel
theorem d35_64 : decode (zbyt 35) 64 = .ok (.iaload, 1) := by decide +kernel
theorem d35_65 : decode (zbyt 35) 65 = .ok (.imul, 1) := by decide +kernel
theorem d35_66 : decode (zbyt 35) 66 = .ok (.iload 5, 2) := by decide +kernel
theorem d35_68 : decode (zbyt 35) 68 = .ok (.invokestatic 37, 3) := by decide +kernel
theorem d35_71 : decode (zbyt 35) 71 = .ok (.aload_n 0, 1) := by decide +kernel
theorem d35_72 : decode (zbyt 35) 72 = .ok (.getfield 18, 3) := by decide +kernel
theorem d35_75 : decode (zbyt 35) 75 = .ok (.iload 6, 2) := by decide +kernel
theorem d35_77 : decode (zbyt 35) 77 = .ok (.iaload, 1) := by decide +kernel
theorem d35_78 : decode (zbyt 35) 78 = .ok (.if_icmp .eq 5, 3) := by decide +kernel
theorem d35_81 : decode (zbyt 35) 81 = .ok (.iconst 0, 1) := by decide +kernel
theorem d35_82 : decode (zbyt 35) 82 = .ok (.ireturn, 1) := by decide +kernel
theorem d35_83 : decode (zbyt 35) 83 = .ok (.iinc 6 1, 3) := by decide +kernel
theorem d35_86 : decode (zbyt 35) 86 = .ok (.goto (-83), 3) := by decide +kernel
theorem d35_89 : decode (zbyt 35) 89 = .ok (.iconst 1, 1) := by decide +kernel
theorem d35_90 : decode (zbyt 35) 90 = .ok (.ireturn, 1) := by decide +kernel
theorem d36_0 : decode (zbyt 36) 0 = .ok (.aload_n 0, 1) := by decide +kernel
theorem d36_1 : decode (zbyt 36) 1 = .ok (.iload_n 1, 1) := by decide +kernel
theorem d36_2 : decode (zbyt 36) 2 = .ok (.invokevirtual 40, 3) := by decide +kernel
theorem d36_5 : decode (zbyt 36) 5 = .ok (.astore_n 2, 1) := by decide +kernel
theorem d36_6 : decode (zbyt 36) 6 = .ok (.aload_n 2, 1) := by decide +kernel
theorem d36_7 : decode (zbyt 36) 7 = .ok (.ifnonnull 7, 3) := by decide +kernel
theorem d36_10 : decode (zbyt 36) 10 = .ok (.iconst 0, 1) := by decide +kernel
theorem d36_11 : decode (zbyt 36) 11 = .ok (.goto 14, 3) := by decide +kernel
theorem d36_14 : decode (zbyt 36) 14 = .ok (.aload_n 2, 1) := by decide +kernel
theorem d36_15 : decode (zbyt 36) 15 = .ok (.getfield 46, 3) := by decide +kernel
theorem d36_18 : decode (zbyt 36) 18 = .ok (.aload_n 2, 1) := by decide +kernel
theorem d36_19 : decode (zbyt 36) 19 = .ok (.getfield 51, 3) := by decide +kernel
theorem d36_22 : decode (zbyt 36) 22 = .ok (.invokestatic 29, 3) := by decide +kernel
theorem d36_25 : decode (zbyt 36) 25 = .ok (.ireturn, 1) := by decide +kernel
theorem d37_0 : decode (zbyt 37) 0 = .ok (.iload_n 1, 1) := by decide +kernel
theorem d37_1 : decode (zbyt 37) 1 = .ok (.ifCond .lt 34, 3) := by decide +kernel
theorem d37_4 : decode (zbyt 37) 4 = .ok (.iload_n 1, 1) := by decide +kernel
theorem d37_5 : decode (zbyt 37) 5 = .ok (.aload_n 0, 1) := by decide +kernel
theorem d37_6 : decode (zbyt 37) 6 = .ok (.getfield 9, 3) := by decide +kernel
theorem d37_9 : decode (zbyt 37) 9 = .ok (.arraylength, 1) := by decide +kernel
theorem d37_10 : decode (zbyt 37) 10 = .ok (.if_icmp .ge 25, 3) := by decide +kernel
theorem d37_13 : decode (zbyt 37) 13 = .ok (.iload_n 1, 1) := by decide +kernel
theorem d37_14 : decode (zbyt 37) 14 = .ok (.aload_n 0, 1) := by decide +kernel
theorem d37_15 : decode (zbyt 37) 15 = .ok (.getfield 15, 3) := by decide +kernel
theorem d37_18 : decode (zbyt 37) 18 = .ok (.arraylength, 1) := by decide +kernel
theorem d37_19 : decode (zbyt 37) 19 = .ok (.if_icmp .ge 16, 3) := by decide +kernel
theorem d37_22 : decode (zbyt 37) 22 = .ok (.iload_n 1, 1) := by decide +kernel
theorem d37_23 : decode (zbyt 37) 23 = .ok (.aload_n 0, 1) := by decide +kernel
theorem d37_24 : decode (zbyt 37) 24 = .ok (.getfield 18, 3) := by decide +kernel
theorem d37_27 : decode (zbyt 37) 27 = .ok (.arraylength, 1) := by decide +kernel
theorem d37_28 : decode (zbyt 37) 28 = .ok (.if_icmp .ge 7, 3) := by decide +kernel
theorem d37_31 : decode (zbyt 37) 31 = .ok (.iconst 1, 1) := by decide +kernel
theorem d37_32 : decode (zbyt 37) 32 = .ok (.goto 4, 3) := by decide +kernel
theorem d37_35 : decode (zbyt 37) 35 = .ok (.iconst 0, 1) := by decide +kernel
theorem d37_36 : decode (zbyt 37) 36 = .ok (.ireturn, 1) := by decide +kernel
theorem d38_0 : decode (zbyt 38) 0 = .ok (.aload_n 0, 1) := by decide +kernel
theorem d38_1 : decode (zbyt 38) 1 = .ok (.invokespecial 1, 3) := by decide +kernel
theorem d38_4 : decode (zbyt 38) 4 = .ok (.return_, 1) := by decide +kernel
theorem d39_0 : decode (zbyt 39) 0 = .ok (.aload_n 0, 1) := by decide +kernel
theorem d39_1 : decode (zbyt 39) 1 = .ok (.iload_n 1, 1) := by decide +kernel
theorem d39_2 : decode (zbyt 39) 2 = .ok (.putfield 7, 3) := by decide +kernel
theorem d39_5 : decode (zbyt 39) 5 = .ok (.aload_n 0, 1) := by decide +kernel
theorem d39_6 : decode (zbyt 39) 6 = .ok (.iload_n 2, 1) := by decide +kernel
theorem d39_7 : decode (zbyt 39) 7 = .ok (.putfield 13, 3) := by decide +kernel
theorem d39_10 : decode (zbyt 39) 10 = .ok (.aload_n 0, 1) := by decide +kernel
theorem d39_11 : decode (zbyt 39) 11 = .ok (.iload_n 3, 1) := by decide +kernel
theorem d39_12 : decode (zbyt 39) 12 = .ok (.putfield 16, 3) := by decide +kernel
theorem d39_15 : decode (zbyt 39) 15 = .ok (.aload_n 0, 1) := by decide +kernel
theorem d39_16 : decode (zbyt 39) 16 = .ok (.invokevirtual 19, 3) := by decide +kernel
theorem d39_19 : decode (zbyt 39) 19 = .ok (.return_, 1) := by decide +kernel
theorem d40_0 : decode (zbyt 40) 0 = .ok (.aload_n 0, 1) := by decide +kernel
theorem d40_1 : decode (zbyt 40) 1 = .ok (.aload_n 1, 1) := by decide +kernel
theorem d40_2 : decode (zbyt 40) 2 = .ok (.getfield 7, 3) := by decide +kernel
theorem d40_5 : decode (zbyt 40) 5 = .ok (.putfield 7, 3) := by decide +kernel
theorem d40_8 : decode (zbyt 40) 8 = .ok (.aload_n 0, 1) := by decide +kernel
theorem d40_9 : decode (zbyt 40) 9 = .ok (.aload_n 1, 1) := by decide +kernel
theorem d40_10 : decode (zbyt 40) 10 = .ok (.getfield 13, 3) := by decide +kernel
theorem d40_13 : decode (zbyt 40) 13 = .ok (.putfield 13, 3) := by decide +kernel
theorem d40_16 : decode (zbyt 40) 16 = .ok (.aload_n 0, 1) := by decide +kernel
theorem d40_17 : decode (zbyt 40) 17 = .ok (.aload_n 1, 1) := by decide +kernel
theorem d40_18 : decode (zbyt 40) 18 = .ok (.getfield 16, 3) := by decide +kernel
theorem d40_21 : decode (zbyt 40) 21 = .ok (.putfield 16, 3) := by decide +kernel
theorem d40_24 : decode (zbyt 40) 24 = .ok (.aload_n 0, 1) := by decide +kernel
theorem d40_25 : decode (zbyt 40) 25 = .ok (.aload_n 1, 1) := by decide +kernel
theorem d40_26 : decode (zbyt 40) 26 = .ok (.getfield 22, 3) := by decide +kernel
theorem d40_29 : decode (zbyt 40) 29 = .ok (.putfield 22, 3) := by decide +kernel
theorem d40_32 : decode (zbyt 40) 32 = .ok (.aload_n 0, 1) := by decide +kernel
theorem d40_33 : decode (zbyt 40) 33 = .ok (.aload_n 1, 1) := by decide +kernel
theorem d40_34 : decode (zbyt 40) 34 = .ok (.getfield 25, 3) := by decide +kernel
theorem d40_37 : decode (zbyt 40) 37 = .ok (.putfield 25, 3) := by decide +kernel
theorem d40_40 : decode (zbyt 40) 40 = .ok (.aload_n 0, 1) := by decide +kernel
theorem d40_41 : decode (zbyt 40) 41 = .ok (.aload_n 1, 1) := by decide +kernel
theorem d40_42 : decode (zbyt 40) 42 = .ok (.getfield 28, 3) := by decide +kernel
theorem d40_45 : decode (zbyt 40) 45 = .ok (.putfield 28, 3) := by decide +kernel
theorem d40_48 : decode (zbyt 40) 48 = .ok (.return_, 1) := by decide +kernel
theorem d41_0 : decode (zbyt 41) 0 = .ok (.aload_n 0, 1) := by decide +kernel
theorem d41_1 : decode (zbyt 41) 1 = .ok (.iconst 1, 1) := by decide +kernel
theorem d41_2 : decode (zbyt 41) 2 = .ok (.putfield 28, 3) := by decide +kernel
theorem d41_5 : decode (zbyt 41) 5 = .ok (.aload_n 0, 1) := by decide +kernel
theorem d41_6 : decode (zbyt 41) 6 = .ok (.iconst 0, 1) := by decide +kernel
theorem d41_7 : decode (zbyt 41) 7 = .ok (.putfield 25, 3) := by decide +kernel
theorem d41_10 : decode (zbyt 41) 10 = .ok (.return_, 1) := by decide +kernel
theorem d42_0 : decode (zbyt 42) 0 = .ok (.aload_n 0, 1) := by decide +kernel
theorem d42_1 : decode (zbyt 42) 1 = .ok (.iconst 0, 1) := by decide +kernel
theorem d42_2 : decode (zbyt 42) 2 = .ok (.putfield 28, 3) := by decide +kernel
theorem d42_5 : decode (zbyt 42) 5 = .ok (.aload_n 0, 1) := by decide +kernel
theorem d42_6 : decode (zbyt 42) 6 = .ok (.iconst 0, 1) := by decide +kernel
theorem d42_7 : decode (zbyt 42) 7 = .ok (.putfield 25, 3) := by decide +kernel
theorem d42_10 : decode (zbyt 42) 10 = .ok (.aload_n 0, 1) := by decide +kernel
theorem d42_11 : decode (zbyt 42) 11 = .ok (.iconst 0, 1) := by decide +kernel
theorem d42_12 : decode (zbyt 42) 12 = .ok (.putfield 22, 3) := by decide +kernel
theorem d42_15 : decode (zbyt 42) 15 = .ok (.return_, 1) := by decide +kernel
theorem d43_0 : decode (zbyt 43) 0 = .ok (.aload_n 0, 1) := by decide +kernel
theorem d43_1 : decode (zbyt 43) 1 = .ok (.getfield 28, 3) := by decide +kernel
theorem d43_4 : decode (zbyt 43) 4 = .ok (.ifCond .ne 5, 3) := by decide +kernel
theorem d43_7 : decode (zbyt 43) 7 = .ok (.iconst 0, 1) := by decide +kernel
theorem d43_8 : decode (zbyt 43) 8 = .ok (.ireturn, 1) := by decide +kernel
theorem d43_9 : decode (zbyt 43) 9 = .ok (.aload_n 0, 1) := by decide +kernel
theorem d43_10 : decode (zbyt 43) 10 = .ok (.getfield 25, 3) := by decide +kernel
theorem d43_13 : decode (zbyt 43) 13 = .ok (.aload_n 0, 1) := by decide +kernel
theorem d43_14 : decode (zbyt 43) 14 = .ok (.getfield 16, 3) := by decide +kernel
theorem d43_17 : decode (zbyt 43) 17 = .ok (.if_icmp .lt 9, 3) := by decide +kernel
theorem d43_20 : decode (zbyt 43) 20 = .ok (.aload_n 0, 1) := by decide +kernel
theorem d43_21 : decode (zbyt 43) 21 = .ok (.invokevirtual 19, 3) := by decide +kernel
theorem d43_24 : decode (zbyt 43) 24 = .ok (.iconst 1, 1) := by decide +kernel
theorem d43_25 : decode (zbyt 43) 25 = .ok (.ireturn, 1) := by decide +kernel
theorem d43_26 : decode (zbyt 43) 26 = .ok (.aload_n 0, 1) := by decide +kernel
theorem d43_27 : decode (zbyt 43) 27 = .ok (.dup, 1) := by decide +kernel
theorem d43_28 : decode (zbyt 43) 28 = .ok (.getfield 22, 3) := by decide +kernel
theorem d43_31 : decode (zbyt 43) 31 = .ok (.aload_n 0, 1) := by decide +kernel
theorem d43_32 : decode (zbyt 43) 32 = .ok (.getfield 7, 3) := by decide +kernel
theorem d43_35 : decode (zbyt 43) 35 = .ok (.aload_n 0, 1) := by decide +kernel
theorem d43_36 : decode (zbyt 43) 36 = .ok (.getfield 13, 3) := by decide +kernel
theorem d43_39 : decode (zbyt 43) 39 = .ok (.invokestatic 32, 3) := by decide +kernel
theorem d43_42 : decode (zbyt 43) 42 = .ok (.iadd, 1) := by decide +kernel
theorem d43_43 : decode (zbyt 43) 43 = .ok (.putfield 22, 3) := by decide +kernel
theorem d43_46 : decode (zbyt 43) 46 = .ok (.aload_n 0, 1) := by decide +kernel
theorem d43_47 : decode (zbyt 43) 47 = .ok (.dup, 1) := by decide +kernel
theorem d43_48 : decode (zbyt 43) 48 = .ok (.getfield 25, 3) := by decide +kernel
theorem d43_51 : decode (zbyt 43) 51 = .ok (.iconst 1, 1) := by decide +kernel
theorem d43_52 : decode (zbyt 43) 52 = .ok (.iadd, 1) := by decide +kernel
theorem d43_53 : decode (zbyt 43) 53 = .ok (.putfield 25, 3) := by decide +kernel
theorem d43_56 : decode (zbyt 43) 56 = .ok (.iconst 0, 1) := by decide +kernel
theorem d43_57 : decode (zbyt 43) 57 = .ok (.ireturn, 1) := by decide +kernel
theorem d44_0 : decode (zbyt 44) 0 = .ok (.aload_n 0, 1) := by decide +kernel
theorem d44_1 : decode (zbyt 44) 1 = .ok (.invokespecial 3, 3) := by decide +kernel
theorem d44_4 : decode (zbyt 44) 4 = .ok (.aload_n 0, 1) := by decide +kernel
theorem d44_5 : decode (zbyt 44) 5 = .ok (.bipush 60, 2) := by decide +kernel
theorem d44_7 : decode (zbyt 44) 7 = .ok (.newarray .int, 2) := by decide +kernel
theorem d44_9 : decode (zbyt 44) 9 = .ok (.putfield 9, 3) := by decide +kernel
theorem d44_12 : decode (zbyt 44) 12 = .ok (.aload_n 0, 1) := by decide +kernel
theorem d44_13 : decode (zbyt 44) 13 = .ok (.iconst (-1), 1) := by decide +kernel
theorem d44_14 : decode (zbyt 44) 14 = .ok (.putfield 15, 3) := by decide +kernel
theorem d44_17 : decode (zbyt 44) 17 = .ok (.return_, 1) := by decide +kernel
theorem d45_0 : decode (zbyt 45) 0 = .ok (.aload_n 0, 1) := by decide +kernel
theorem d45_1 : decode (zbyt 45) 1 = .ok (.getfield 15, 3) := by decide +kernel
theorem d45_4 : decode (zbyt 45) 4 = .ok (.iconst (-1), 1) := by decide +kernel
theorem d45_5 : decode (zbyt 45) 5 = .ok (.if_icmp .ne 7, 3) := by decide +kernel
theorem d45_8 : decode (zbyt 45) 8 = .ok (.iconst 1, 1) := by decide +kernel
theorem d45_9 : decode (zbyt 45) 9 = .ok (.goto 4, 3) := by decide +kernel
theorem d45_12 : decode (zbyt 45) 12 = .ok (.iconst 0, 1) := by decide +kernel
theorem d45_13 : decode (zbyt 45) 13 = .ok (.ireturn, 1) := by decide +kernel
theorem d46_0 : decode (zbyt 46) 0 = .ok (.aload_n 0, 1) := by decide +kernel
theorem d46_1 : decode (zbyt 46) 1 = .ok (.iconst (-1), 1) := by decide +kernel
theorem d46_2 : decode (zbyt 46) 2 = .ok (.putfield 15, 3) := by decide +kernel
theorem d46_5 : decode (zbyt 46) 5 = .ok (.aload_n 0, 1) := by decide +kernel
theorem d46_6 : decode (zbyt 46) 6 = .ok (.iconst 0, 1) := by decide +kernel
theorem d46_7 : decode (zbyt 46) 7 = .ok (.putfield 19, 3) := by decide +kernel
theorem d46_10 : decode (zbyt 46) 10 = .ok (.return_, 1) := by decide +kernel
theorem d47_0 : decode (zbyt 47) 0 = .ok (.aload_n 0, 1) := by decide +kernel
theorem d47_1 : decode (zbyt 47) 1 = .ok (.iload_n 1, 1) := by decide +kernel
theorem d47_2 : decode (zbyt 47) 2 = .ok (.putfield 15, 3) := by decide +kernel
theorem d47_5 : decode (zbyt 47) 5 = .ok (.aload_n 0, 1) := by decide +kernel
theorem d47_6 : decode (zbyt 47) 6 = .ok (.iconst 0, 1) := by decide +kernel
theorem d47_7 : decode (zbyt 47) 7 = .ok (.iload_n 2, 1) := by decide +kernel
theorem d47_8 : decode (zbyt 47) 8 = .ok (.aload_n 0, 1) := by decide +kernel
theorem d47_9 : decode (zbyt 47) 9 = .ok (.getfield 9, 3) := by decide +kernel
theorem d47_12 : decode (zbyt 47) 12 = .ok (.arraylength, 1) := by decide +kernel
theorem d47_13 : decode (zbyt 47) 13 = .ok (.invokestatic 22, 3) := by decide +kernel
theorem d47_16 : decode (zbyt 47) 16 = .ok (.invokestatic 28, 3) := by decide +kernel
theorem d47_19 : decode (zbyt 47) 19 = .ok (.putfield 19, 3) := by decide +kernel
theorem d47_22 : decode (zbyt 47) 22 = .ok (.iconst 0, 1) := by decide +kernel
theorem d47_23 : decode (zbyt 47) 23 = .ok (.istore_n 3, 1) := by decide +kernel
theorem d47_24 : decode (zbyt 47) 24 = .ok (.iload_n 3, 1) := by decide +kernel
theorem d47_25 : decode (zbyt 47) 25 = .ok (.aload_n 0, 1) := by decide +kernel
theorem d47_26 : decode (zbyt 47) 26 = .ok (.getfield 9, 3) := by decide +kernel
theorem d47_29 : decode (zbyt 47) 29 = .ok (.arraylength, 1) := by decide +kernel
theorem d47_30 : decode (zbyt 47) 30 = .ok (.if_icmp .ge 16, 3) := by decide +kernel
theorem d47_33 : decode (zbyt 47) 33 = .ok (.aload_n 0, 1) := by decide +kernel
theorem d47_34 : decode (zbyt 47) 34 = .ok (.getfield 9, 3) := by decide +kernel
theorem d47_37 : decode (zbyt 47) 37 = .ok (.iload_n 3, 1) := by decide +kernel
theorem d47_38 : decode (zbyt 47) 38 = .ok (.iconst 0, 1) := by decide +kernel
theorem d47_39 : decode (zbyt 47) 39 = .ok (.iastore, 1) := by decide +kernel
theorem d47_40 : decode (zbyt 47) 40 = .ok (.iinc 3 1, 3) := by decide +kernel
theorem d47_43 : decode (zbyt 47) 43 = .ok (.goto (-19), 3) := by decide +kernel
theorem d47_46 : decode (zbyt 47) 46 = .ok (.return_, 1) := by decide +kernel
theorem d48_0 : decode (zbyt 48) 0 = .ok (.iload_n 1, 1) := by decide +kernel
theorem d48_1 : decode (zbyt 48) 1 = .ok (.ifCond .lt 24, 3) := by decide +kernel
theorem d48_4 : decode (zbyt 48) 4 = .ok (.iload_n 1, 1) := by decide +kernel
theorem d48_5 : decode (zbyt 48) 5 = .ok (.aload_n 0, 1) := by decide +kernel
theorem d48_6 : decode (zbyt 48) 6 = .ok (.getfield 19, 3) := by decide +kernel
theorem d48_9 : decode (zbyt 48) 9 = .ok (.if_icmp .ge 16, 3) := by decide +kernel
theorem d48_12 : decode (zbyt 48) 12 = .ok (.iload_n 1, 1) := by decide +kernel
theorem d48_13 : decode (zbyt 48) 13 = .ok (.aload_n 0, 1) := by decide +kernel
theorem d48_14 : decode (zbyt 48) 14 = .ok (.getfield 9, 3) := by decide +kernel
theorem d48_17 : decode (zbyt 48) 17 = .ok (.arraylength, 1) := by decide +kernel
theorem d48_18 : decode (zbyt 48) 18 = .ok (.if_icmp .ge 7, 3) := by decide +kernel
theorem d48_21 : decode (zbyt 48) 21 = .ok (.iconst 1, 1) := by decide +kernel
theorem d48_22 : decode (zbyt 48) 22 = .ok (.goto 4, 3) := by decide +kernel
theorem d48_25 : decode (zbyt 48) 25 = .ok (.iconst 0, 1) := by decide +kernel
theorem d48_26 : decode (zbyt 48) 26 = .ok (.ireturn, 1) := by decide +kernel
theorem d49_0 : decode (zbyt 49) 0 = .ok (.iload_n 2, 1) := by decide +kernel
theorem d49_1 : decode (zbyt 49) 1 = .ok (.ifCond .lt 41, 3) := by decide +kernel
theorem d49_4 : decode (zbyt 49) 4 = .ok (.iload_n 1, 1) := by decide +kernel
theorem d49_5 : decode (zbyt 49) 5 = .ok (.ifCond .lt 37, 3) := by decide +kernel
theorem d49_8 : decode (zbyt 49) 8 = .ok (.iload_n 1, 1) := by decide +kernel
theorem d49_9 : decode (zbyt 49) 9 = .ok (.aload_n 0, 1) := by decide +kernel
theorem d49_10 : decode (zbyt 49) 10 = .ok (.getfield 19, 3) := by decide +kernel
theorem d49_13 : decode (zbyt 49) 13 = .ok (.if_icmp .gt 29, 3) := by decide +kernel
theorem d49_16 : decode (zbyt 49) 16 = .ok (.aload_n 0, 1) := by decide +kernel
theorem d49_17 : decode (zbyt 49) 17 = .ok (.getfield 19, 3) := by decide +kernel
theorem d49_20 : decode (zbyt 49) 20 = .ok (.aload_n 0, 1) := by decide +kernel
theorem d49_21 : decode (zbyt 49) 21 = .ok (.getfield 9, 3) := by decide +kernel
theorem d49_24 : decode (zbyt 49) 24 = .ok (.arraylength, 1) := by decide +kernel
theorem d49_25 : decode (zbyt 49) 25 = .ok (.if_icmp .gt 17, 3) := by decide +kernel
theorem d49_28 : decode (zbyt 49) 28 = .ok (.iload_n 2, 1) := by decide +kernel
theorem d49_29 : decode (zbyt 49) 29 = .ok (.aload_n 0, 1) := by decide +kernel
theorem d49_30 : decode (zbyt 49) 30 = .ok (.getfield 19, 3) := by decide +kernel
theorem d49_33 : decode (zbyt 49) 33 = .ok (.iload_n 1, 1) := by decide +kernel
theorem d49_34 : decode (zbyt 49) 34 = .ok (.isub, 1) := by decide +kernel
theorem d49_35 : decode (zbyt 49) 35 = .ok (.if_icmp .gt 7, 3) := by decide +kernel
theorem d49_38 : decode (zbyt 49) 38 = .ok (.iconst 1, 1) := by decide +kernel
theorem d49_39 : decode (zbyt 49) 39 = .ok (.goto 4, 3) := by decide +kernel
theorem d49_42 : decode (zbyt 49) 42 = .ok (.iconst 0, 1) := by decide +kernel
theorem d49_43 : decode (zbyt 49) 43 = .ok (.ireturn, 1) := by decide +kernel
theorem d50_0 : decode (zbyt 50) 0 = .ok (.aload_n 0, 1) := by decide +kernel
theorem d50_1 : decode (zbyt 50) 1 = .ok (.iload_n 1, 1) := by decide +kernel
theorem d50_2 : decode (zbyt 50) 2 = .ok (.invokevirtual 31, 3) := by decide +kernel
theorem d50_5 : decode (zbyt 50) 5 = .ok (.ifCond .eq 12, 3) := by decide +kernel
theorem d50_8 : decode (zbyt 50) 8 = .ok (.aload_n 0, 1) := by decide +kernel
theorem d50_9 : decode (zbyt 50) 9 = .ok (.getfield 9, 3) := by decide +kernel
theorem d50_12 : decode (zbyt 50) 12 = .ok (.iload_n 1, 1) := by decide +kernel
theorem d50_13 : decode (zbyt 50) 13 = .ok (.iaload, 1) := by decide +kernel
theorem d50_14 : decode (zbyt 50) 14 = .ok (.goto 4, 3) := by decide +kernel
theorem d50_17 : decode (zbyt 50) 17 = .ok (.iconst 0, 1) := by decide +kernel
theorem d50_18 : decode (zbyt 50) 18 = .ok (.ireturn, 1) := by decide +kernel
theorem d51_0 : decode (zbyt 51) 0 = .ok (.aload_n 0, 1) := by decide +kernel
theorem d51_1 : decode (zbyt 51) 1 = .ok (.iload_n 1, 1) := by decide +kernel
theorem d51_2 : decode (zbyt 51) 2 = .ok (.invokevirtual 31, 3) := by decide +kernel
theorem d51_5 : decode (zbyt 51) 5 = .ok (.ifCond .eq 14, 3) := by decide +kernel
theorem d51_8 : decode (zbyt 51) 8 = .ok (.aload_n 0, 1) := by decide +kernel
theorem d51_9 : decode (zbyt 51) 9 = .ok (.getfield 9, 3) := by decide +kernel
theorem d51_12 : decode (zbyt 51) 12 = .ok (.iload_n 1, 1) := by decide +kernel
theorem d51_13 : decode (zbyt 51) 13 = .ok (.aload_n 0, 1) := by decide +kernel
theorem d51_14 : decode (zbyt 51) 14 = .ok (.iload_n 2, 1) := by decide +kernel
theorem d51_15 : decode (zbyt 51) 15 = .ok (.invokevirtual 35, 3) := by decide +kernel
theorem d51_18 : decode (zbyt 51) 18 = .ok (.iastore, 1) := by decide +kernel
theorem d51_19 : decode (zbyt 51) 19 = .ok (.return_, 1) := by decide +kernel
theorem d52_0 : decode (zbyt 52) 0 = .ok (.aload_n 0, 1) := by decide +kernel
theorem d52_1 : decode (zbyt 52) 1 = .ok (.getfield 15, 3) := by decide +kernel
theorem d52_4 : decode (zbyt 52) 4 = .ok (.ifCond .ne 6, 3) := by decide +kernel
theorem d52_7 : decode (zbyt 52) 7 = .ok (.iload_n 1, 1) := by decide +kernel
theorem d52_8 : decode (zbyt 52) 8 = .ok (.i2b, 1) := by decide +kernel
theorem d52_9 : decode (zbyt 52) 9 = .ok (.ireturn, 1) := by decide +kernel
theorem d52_10 : decode (zbyt 52) 10 = .ok (.aload_n 0, 1) := by decide +kernel
theorem d52_11 : decode (zbyt 52) 11 = .ok (.getfield 15, 3) := by decide +kernel
theorem d52_14 : decode (zbyt 52) 14 = .ok (.iconst 1, 1) := by decide +kernel
theorem d52_15 : decode (zbyt 52) 15 = .ok (.if_icmp .ne 8, 3) := by decide +kernel
theorem d52_18 : decode (zbyt 52) 18 = .ok (.iload_n 1, 1) := by decide +kernel
theorem d52_19 : decode (zbyt 52) 19 = .ok (.i2s, 1) := by decide +kernel
theorem d52_20 : decode (zbyt 52) 20 = .ok (.goto 4, 3) := by decide +kernel
theorem d52_23 : decode (zbyt 52) 23 = .ok (.iload_n 1, 1) := by decide +kernel
theorem d52_24 : decode (zbyt 52) 24 = .ok (.ireturn, 1) := by decide +kernel
theorem d53_0 : decode (zbyt 53) 0 = .ok (.aload_n 2, 1) := by decide +kernel
theorem d53_1 : decode (zbyt 53) 1 = .ok (.iload_n 3, 1) := by decide +kernel
theorem d53_2 : decode (zbyt 53) 2 = .ok (.iload 4, 2) := by decide +kernel
theorem d53_4 : decode (zbyt 53) 4 = .ok (.invokevirtual 39, 3) := by decide +kernel
theorem d53_7 : decode (zbyt 53) 7 = .ok (.ifCond .eq 28, 3) := by decide +kernel
theorem d53_10 : decode (zbyt 53) 10 = .ok (.aload_n 0, 1) := by decide +kernel
theorem d53_11 : decode (zbyt 53) 11 = .ok (.iload_n 1, 1) := by decide +kernel
theorem d53_12 : decode (zbyt 53) 12 = .ok (.iload 4, 2) := by decide +kernel
theorem d53_14 : decode (zbyt 53) 14 = .ok (.invokevirtual 39, 3) := by decide +kernel
theorem d53_17 : decode (zbyt 53) 17 = .ok (.ifCond .eq 18, 3) := by decide +kernel
theorem d53_20 : decode (zbyt 53) 20 = .ok (.aload_n 2, 1) := by decide +kernel
theorem d53_21 : decode (zbyt 53) 21 = .ok (.getfield 9, 3) := by decide +kernel
theorem d53_24 : decode (zbyt 53) 24 = .ok (.iload_n 3, 1) := by decide +kernel
theorem d53_25 : decode (zbyt 53) 25 = .ok (.aload_n 0, 1) := by decide +kernel
theorem d53_26 : decode (zbyt 53) 26 = .ok (.getfield 9, 3) := by decide +kernel
theorem d53_29 : decode (zbyt 53) 29 = .ok (.iload_n 1, 1) := by decide +kernel
theorem d53_30 : decode (zbyt 53) 30 = .ok (.iload 4, 2) := by decide +kernel
theorem d53_32 : decode (zbyt 53) 32 = .ok (.invokestatic 43, 3) := by decide +kernel
theorem d53_35 : decode (zbyt 53) 35 = .ok (.return_, 1) := by decide +kernel
theorem d54_0 : decode (zbyt 54) 0 = .ok (.aload_n 0, 1) := by decide +kernel
theorem d54_1 : decode (zbyt 54) 1 = .ok (.invokespecial 3, 3) := by decide +kernel
theorem d54_4 : decode (zbyt 54) 4 = .ok (.aload_n 0, 1) := by decide +kernel
theorem d54_5 : decode (zbyt 54) 5 = .ok (.new 9, 3) := by decide +kernel
theorem d54_8 : decode (zbyt 54) 8 = .ok (.dup, 1) := by decide +kernel
theorem d54_9 : decode (zbyt 54) 9 = .ok (.invokespecial 11, 3) := by decide +kernel
theorem d54_12 : decode (zbyt 54) 12 = .ok (.putfield 12, 3) := by decide +kernel
theorem d54_15 : decode (zbyt 54) 15 = .ok (.return_, 1) := by decide +kernel
theorem d55_0 : decode (zbyt 55) 0 = .ok (.aload_n 0, 1) := by decide +kernel
theorem d55_1 : decode (zbyt 55) 1 = .ok (.getfield 12, 3) := by decide +kernel
theorem d55_4 : decode (zbyt 55) 4 = .ok (.aload_n 1, 1) := by decide +kernel
theorem d55_5 : decode (zbyt 55) 5 = .ok (.invokevirtual 18, 3) := by decide +kernel
theorem d55_8 : decode (zbyt 55) 8 = .ok (.aload_n 0, 1) := by decide +kernel
theorem d55_9 : decode (zbyt 55) 9 = .ok (.iconst 0, 1) := by decide +kernel
theorem d55_10 : decode (zbyt 55) 10 = .ok (.putfield 22, 3) := by decide +kernel
theorem d55_13 : decode (zbyt 55) 13 = .ok (.aload_n 0, 1) := by decide +kernel
theorem d55_14 : decode (zbyt 55) 14 = .ok (.iconst 0, 1) := by decide +kernel
theorem d55_15 : decode (zbyt 55) 15 = .ok (.putfield 26, 3) := by decide +kernel
theorem d55_18 : decode (zbyt 55) 18 = .ok (.iconst 0, 1) := by decide +kernel
theorem d55_19 : decode (zbyt 55) 19 = .ok (.istore 5, 2) := by decide +kernel
theorem d55_21 : decode (zbyt 55) 21 = .ok (.iload 5, 2) := by decide +kernel
theorem d55_23 : decode (zbyt 55) 23 = .ok (.iload 4, 2) := by decide +kernel
theorem d55_25 : decode (zbyt 55) 25 = .ok (.if_icmp .ge 41, 3) := by decide +kernel
theorem d55_28 : decode (zbyt 55) 28 = .ok (.aload_n 0, 1) := by decide +kernel
theorem d55_29 : decode (zbyt 55) 29 = .ok (.aload_n 2, 1) := by decide +kernel
theorem d55_30 : decode (zbyt 55) 30 = .ok (.iload_n 3, 1) := by decide +kernel
theorem d55_31 : decode (zbyt 55) 31 = .ok (.iconst 2, 1) := by decide +kernel
theorem d55_32 : decode (zbyt 55) 32 = .ok (.iload 5, 2) := by decide +kernel
theorem d55_34 : decode (zbyt 55) 34 = .ok (.imul, 1) := by decide +kernel
theorem d55_35 : decode (zbyt 55) 35 = .ok (.iadd, 1) := by decide +kernel
theorem d55_36 : decode (zbyt 55) 36 = .ok (.invokevirtual 29, 3) := by decide +kernel
theorem d55_39 : decode (zbyt 55) 39 = .ok (.aload_n 2, 1) := by decide +kernel
theorem d55_40 : decode (zbyt 55) 40 = .ok (.iload_n 3, 1) := by decide +kernel
theorem d55_41 : decode (zbyt 55) 41 = .ok (.iconst 2, 1) := by decide +kernel
theorem d55_42 : decode (zbyt 55) 42 = .ok (.iload 5, 2) := by decide +kernel
theorem d55_44 : decode (zbyt 55) 44 = .ok (.imul, 1) := by decide +kernel
theorem d55_45 : decode (zbyt 55) 45 = .ok (.iadd, 1) := by decide +kernel
theorem d55_46 : decode (zbyt 55) 46 = .ok (.iconst 1, 1) := by decide +kernel
theorem d55_47 : decode (zbyt 55) 47 = .ok (.iadd, 1) := by decide +kernel
theorem d55_48 : decode (zbyt 55) 48 = .ok (.invokevirtual 29, 3) := by decide +kernel
theorem d55_51 : decode (zbyt 55) 51 = .ok (.invokevirtual 35, 3) := by decide +kernel
theorem d55_54 : decode (zbyt 55) 54 = .ok (.ifCond .ne 6, 3) := by decide +kernel
theorem d55_57 : decode (zbyt 55) 57 = .ok (.iload 5, 2) := by decide +kernel
theorem d55_59 : decode (zbyt 55) 59 = .ok (.ireturn, 1) := by decide +kernel
theorem d55_60 : decode (zbyt 55) 60 = .ok (.iinc 5 1, 3) := by decide +kernel
theorem d55_63 : decode (zbyt 55) 63 = .ok (.goto (-42), 3) := by decide +kernel
theorem d55_66 : decode (zbyt 55) 66 = .ok (.bipush (-9), 2) := by decide +kernel
theorem d55_68 : decode (zbyt 55) 68 = .ok (.ireturn, 1) := by decide +kernel
theorem d56_0 : decode (zbyt 56) 0 = .ok (.iload_n 2, 1) := by decide +kernel
theorem d56_1 : decode (zbyt 56) 1 = .ok (.iconst 2, 1) := by decide +kernel
theorem d56_2 : decode (zbyt 56) 2 = .ok (.if_icmp .ne 10, 3) := by decide +kernel
theorem d56_5 : decode (zbyt 56) 5 = .ok (.aload_n 0, 1) := by decide +kernel
theorem d56_6 : decode (zbyt 56) 6 = .ok (.iload_n 1, 1) := by decide +kernel
theorem d56_7 : decode (zbyt 56) 7 = .ok (.invokevirtual 39, 3) := by decide +kernel
theorem d56_10 : decode (zbyt 56) 10 = .ok (.iconst 1, 1) := by decide +kernel
theorem d56_11 : decode (zbyt 56) 11 = .ok (.ireturn, 1) := by decide +kernel
theorem d56_12 : decode (zbyt 56) 12 = .ok (.aload_n 0, 1) := by decide +kernel
theorem d56_13 : decode (zbyt 56) 13 = .ok (.getfield 12, 3) := by decide +kernel
theorem d56_16 : decode (zbyt 56) 16 = .ok (.iload_n 1, 1) := by decide +kernel
theorem d56_17 : decode (zbyt 56) 17 = .ok (.invokevirtual 43, 3) := by decide +kernel
theorem d56_20 : decode (zbyt 56) 20 = .ok (.astore_n 3, 1) := by decide +kernel
theorem d56_21 : decode (zbyt 56) 21 = .ok (.aload_n 3, 1) := by decide +kernel
theorem d56_22 : decode (zbyt 56) 22 = .ok (.ifnull 20, 3) := by decide +kernel
theorem d56_25 : decode (zbyt 56) 25 = .ok (.aload_n 3, 1) := by decide +kernel
theorem d56_26 : decode (zbyt 56) 26 = .ok (.getfield 47, 3) := by decide +kernel
theorem d56_29 : decode (zbyt 56) 29 = .ok (.iload_n 2, 1) := by decide +kernel
theorem d56_30 : decode (zbyt 56) 30 = .ok (.iconst 1, 1) := by decide +kernel
theorem d56_31 : decode (zbyt 56) 31 = .ok (.if_icmp .ne 7, 3) := by decide +kernel
theorem d56_34 : decode (zbyt 56) 34 = .ok (.iconst 1, 1) := by decide +kernel
theorem d56_35 : decode (zbyt 56) 35 = .ok (.goto 4, 3) := by decide +kernel
theorem d56_38 : decode (zbyt 56) 38 = .ok (.iconst 0, 1) := by decide +kernel
theorem d56_39 : decode (zbyt 56) 39 = .ok (.if_icmp .eq 5, 3) := by decide +kernel
theorem d56_42 : decode (zbyt 56) 42 = .ok (.iconst 0, 1) := by decide +kernel
theorem d56_43 : decode (zbyt 56) 43 = .ok (.ireturn, 1) := by decide +kernel
theorem d56_44 : decode (zbyt 56) 44 = .ok (.iload_n 2, 1) := by decide +kernel
theorem d56_45 : decode (zbyt 56) 45 = .ok (.iconst 1, 1) := by decide +kernel
theorem d56_46 : decode (zbyt 56) 46 = .ok (.if_icmp .ne 20, 3) := by decide +kernel
theorem d56_49 : decode (zbyt 56) 49 = .ok (.aload_n 3, 1) := by decide +kernel
theorem d56_50 : decode (zbyt 56) 50 = .ok (.invokevirtual 53, 3) := by decide +kernel
theorem d56_53 : decode (zbyt 56) 53 = .ok (.aload_n 0, 1) := by decide +kernel
theorem d56_54 : decode (zbyt 56) 54 = .ok (.dup, 1) := by decide +kernel
theorem d56_55 : decode (zbyt 56) 55 = .ok (.getfield 22, 3) := by decide +kernel
theorem d56_58 : decode (zbyt 56) 58 = .ok (.iconst 1, 1) := by decide +kernel
theorem d56_59 : decode (zbyt 56) 59 = .ok (.iadd, 1) := by decide +kernel
theorem d56_60 : decode (zbyt 56) 60 = .ok (.putfield 22, 3) := by decide +kernel
theorem d56_63 : decode (zbyt 56) 63 = .ok (.goto 7, 3) := by decide +kernel
theorem d56_66 : decode (zbyt 56) 66 = .ok (.aload_n 3, 1) := by decide +kernel
theorem d56_67 : decode (zbyt 56) 67 = .ok (.invokevirtual 56, 3) := by decide +kernel
theorem d56_70 : decode (zbyt 56) 70 = .ok (.iconst 1, 1) := by decide +kernel
theorem d56_71 : decode (zbyt 56) 71 = .ok (.ireturn, 1) := by decide +kernel
theorem d57_0 : decode (zbyt 57) 0 = .ok (.iconst 0, 1) := by decide +kernel
theorem d57_1 : decode (zbyt 57) 1 = .ok (.istore_n 2, 1) := by decide +kernel
theorem d57_2 : decode (zbyt 57) 2 = .ok (.iload_n 2, 1) := by decide +kernel
theorem d57_3 : decode (zbyt 57) 3 = .ok (.iload_n 1, 1) := by decide +kernel
theorem d57_4 : decode (zbyt 57) 4 = .ok (.if_icmp .ge 41, 3) := by decide +kernel
theorem d57_7 : decode (zbyt 57) 7 = .ok (.aload_n 0, 1) := by decide +kernel
theorem d57_8 : decode (zbyt 57) 8 = .ok (.dup, 1) := by decide +kernel
theorem d57_9 : decode (zbyt 57) 9 = .ok (.getfield 22, 3) := by decide +kernel
theorem d57_12 : decode (zbyt 57) 12 = .ok (.aload_n 0, 1) := by decide +kernel
theorem d57_13 : decode (zbyt 57) 13 = .ok (.getfield 12, 3) := by decide +kernel
theorem d57_16 : decode (zbyt 57) 16 = .ok (.invokevirtual 59, 3) := by decide +kernel
theorem d57_19 : decode (zbyt 57) 19 = .ok (.iadd, 1) := by decide +kernel
theorem d57_20 : decode (zbyt 57) 20 = .ok (.putfield 22, 3) := by decide +kernel
theorem d57_23 : decode (zbyt 57) 23 = .ok (.aload_n 0, 1) := by decide +kernel
theorem d57_24 : decode (zbyt 57) 24 = .ok (.dup, 1) := by decide +kernel
theorem d57_25 : decode (zbyt 57) 25 = .ok (.getfield 26, 3) := by decide +kernel
theorem d57_28 : decode (zbyt 57) 28 = .ok (.aload_n 0, 1) := by decide +kernel
theorem d57_29 : decode (zbyt 57) 29 = .ok (.getfield 12, 3) := by decide +kernel
theorem d57_32 : decode (zbyt 57) 32 = .ok (.invokevirtual 63, 3) := by decide +kernel
theorem d57_35 : decode (zbyt 57) 35 = .ok (.ior, 1) := by decide +kernel
theorem d57_36 : decode (zbyt 57) 36 = .ok (.putfield 26, 3) := by decide +kernel
theorem d57_39 : decode (zbyt 57) 39 = .ok (.iinc 2 1, 3) := by decide +kernel
theorem d57_42 : decode (zbyt 57) 42 = .ok (.goto (-40), 3) := by decide +kernel
theorem d57_45 : decode (zbyt 57) 45 = .ok (.return_, 1) := by decide +kernel
theorem d58_0 : decode (zbyt 58) 0 = .ok (.aload_n 0, 1) := by decide +kernel
theorem d58_1 : decode (zbyt 58) 1 = .ok (.invokespecial 3, 3) := by decide +kernel
theorem d58_4 : decode (zbyt 58) 4 = .ok (.aload_n 0, 1) := by decide +kernel
theorem d58_5 : decode (zbyt 58) 5 = .ok (.aload_n 1, 1) := by decide +kernel
theorem d58_6 : decode (zbyt 58) 6 = .ok (.putfield 9, 3) := by decide +kernel
theorem d58_9 : decode (zbyt 58) 9 = .ok (.aload_n 0, 1) := by decide +kernel
theorem d58_10 : decode (zbyt 58) 10 = .ok (.iload_n 2, 1) := by decide +kernel
theorem d58_11 : decode (zbyt 58) 11 = .ok (.putfield 15, 3) := by decide +kernel
theorem d58_14 : decode (zbyt 58) 14 = .ok (.aload_n 0, 1) := by decide +kernel
theorem d58_15 : decode (zbyt 58) 15 = .ok (.iload_n 3, 1) := by decide +kernel
theorem d58_16 : decode (zbyt 58) 16 = .ok (.putfield 19, 3) := by decide +kernel
theorem d58_19 : decode (zbyt 58) 19 = .ok (.return_, 1) := by decide +kernel
theorem d59_0 : decode (zbyt 59) 0 = .ok (.aload_n 0, 1) := by decide +kernel
theorem d59_1 : decode (zbyt 59) 1 = .ok (.bipush 114, 2) := by decide +kernel
theorem d59_3 : decode (zbyt 59) 3 = .ok (.invokevirtual 22, 3) := by decide +kernel
theorem d59_6 : decode (zbyt 59) 6 = .ok (.ifCond .ne 5, 3) := by decide +kernel
theorem d59_9 : decode (zbyt 59) 9 = .ok (.iconst 0, 1) := by decide +kernel
theorem d59_10 : decode (zbyt 59) 10 = .ok (.ireturn, 1) := by decide +kernel
theorem d59_11 : decode (zbyt 59) 11 = .ok (.aload_n 0, 1) := by decide +kernel
theorem d59_12 : decode (zbyt 59) 12 = .ok (.iconst 1, 1) := by decide +kernel
theorem d59_13 : decode (zbyt 59) 13 = .ok (.invokevirtual 26, 3) := by decide +kernel
theorem d59_16 : decode (zbyt 59) 16 = .ok (.istore_n 2, 1) := by decide +kernel
theorem d59_17 : decode (zbyt 59) 17 = .ok (.iload_n 2, 1) := by decide +kernel
theorem d59_18 : decode (zbyt 59) 18 = .ok (.bipush (-9), 2) := by decide +kernel
theorem d59_20 : decode (zbyt 59) 20 = .ok (.if_icmp .ne 5, 3) := by decide +kernel
theorem d59_23 : decode (zbyt 59) 23 = .ok (.iconst 0, 1) := by decide +kernel
theorem d59_24 : decode (zbyt 59) 24 = .ok (.ireturn, 1) := by decide +kernel
theorem d59_25 : decode (zbyt 59) 25 = .ok (.aload_n 1, 1) := by decide +kernel
theorem d59_26 : decode (zbyt 59) 26 = .ok (.iload_n 2, 1) := by decide +kernel
theorem d59_27 : decode (zbyt 59) 27 = .ok (.invokevirtual 30, 3) := by decide +kernel
theorem d59_30 : decode (zbyt 59) 30 = .ok (.iconst 0, 1) := by decide +kernel
theorem d59_31 : decode (zbyt 59) 31 = .ok (.istore_n 3, 1) := by decide +kernel
theorem d59_32 : decode (zbyt 59) 32 = .ok (.iload_n 3, 1) := by decide +kernel
theorem d59_33 : decode (zbyt 59) 33 = .ok (.iconst 5, 1) := by decide +kernel
theorem d59_34 : decode (zbyt 59) 34 = .ok (.if_icmp .ge 32, 3) := by decide +kernel
theorem d59_37 : decode (zbyt 59) 37 = .ok (.iload_n 3, 1) := by decide +kernel
theorem d59_38 : decode (zbyt 59) 38 = .ok (.ifCond .eq 12, 3) := by decide +kernel
theorem d59_41 : decode (zbyt 59) 41 = .ok (.aload_n 0, 1) := by decide +kernel
theorem d59_42 : decode (zbyt 59) 42 = .ok (.invokevirtual 36, 3) := by decide +kernel
theorem d59_45 : decode (zbyt 59) 45 = .ok (.bipush 44, 2) := by decide +kernel
theorem d59_47 : decode (zbyt 59) 47 = .ok (.if_icmp .ne 19, 3) := by decide +kernel
theorem d59_50 : decode (zbyt 59) 50 = .ok (.aload_n 0, 1) := by decide +kernel
theorem d59_51 : decode (zbyt 59) 51 = .ok (.aload_n 1, 1) := by decide +kernel
theorem d59_52 : decode (zbyt 59) 52 = .ok (.invokevirtual 40, 3) := by decide +kernel
theorem d59_55 : decode (zbyt 59) 55 = .ok (.ifCond .ne 5, 3) := by decide +kernel
theorem d59_58 : decode (zbyt 59) 58 = .ok (.iconst 0, 1) := by decide +kernel
theorem d59_59 : decode (zbyt 59) 59 = .ok (.ireturn, 1) := by decide +kernel
theorem d59_60 : decode (zbyt 59) 60 = .ok (.iinc 3 1, 3) := by decide +kernel
theorem d59_63 : decode (zbyt 59) 63 = .ok (.goto (-31), 3) := by decide +kernel
theorem d59_66 : decode (zbyt 59) 66 = .ok (.iconst 0, 1) := by decide +kernel
theorem d59_67 : decode (zbyt 59) 67 = .ok (.istore_n 3, 1) := by decide +kernel
theorem d59_68 : decode (zbyt 59) 68 = .ok (.iload_n 3, 1) := by decide +kernel
theorem d59_69 : decode (zbyt 59) 69 = .ok (.iconst 5, 1) := by decide +kernel
theorem d59_70 : decode (zbyt 59) 70 = .ok (.if_icmp .ge 32, 3) := by decide +kernel
theorem d59_73 : decode (zbyt 59) 73 = .ok (.iload_n 3, 1) := by decide +kernel
theorem d59_74 : decode (zbyt 59) 74 = .ok (.ifCond .eq 12, 3) := by decide +kernel
theorem d59_77 : decode (zbyt 59) 77 = .ok (.aload_n 0, 1) := by decide +kernel
theorem d59_78 : decode (zbyt 59) 78 = .ok (.invokevirtual 36, 3) := by decide +kernel
theorem d59_81 : decode (zbyt 59) 81 = .ok (.bipush 59, 2) := by decide +kernel
theorem d59_83 : decode (zbyt 59) 83 = .ok (.if_icmp .ne 19, 3) := by decide +kernel
theorem d59_86 : decode (zbyt 59) 86 = .ok (.aload_n 0, 1) := by decide +kernel
theorem d59_87 : decode (zbyt 59) 87 = .ok (.aload_n 1, 1) := by decide +kernel
theorem d59_88 : decode (zbyt 59) 88 = .ok (.invokevirtual 44, 3) := by decide +kernel
theorem d59_91 : decode (zbyt 59) 91 = .ok (.ifCond .ne 5, 3) := by decide +kernel
theorem d59_94 : decode (zbyt 59) 94 = .ok (.iconst 0, 1) := by decide +kernel
theorem d59_95 : decode (zbyt 59) 95 = .ok (.ireturn, 1) := by decide +kernel
theorem d59_96 : decode (zbyt 59) 96 = .ok (.iinc 3 1, 3) := by decide +kernel
theorem d59_99 : decode (zbyt 59) 99 = .ok (.goto (-31), 3) := by decide +kernel
theorem d59_102 : decode (zbyt 59) 102 = .ok (.aload_n 0, 1) := by decide +kernel
theorem d59_103 : decode (zbyt 59) 103 = .ok (.getfield 47, 3) := by decide +kernel
theorem d59_106 : decode (zbyt 59) 106 = .ok (.aload_n 0, 1) := by decide +kernel
theorem d59_107 : decode (zbyt 59) 107 = .ok (.getfield 19, 3) := by decide +kernel
theorem d59_110 : decode (zbyt 59) 110 = .ok (.if_icmp .ne 7, 3) := by decide +kernel
theorem d59_113 : decode (zbyt 59) 113 = .ok (.iconst 1, 1) := by decide +kernel
theorem d59_114 : decode (zbyt 59) 114 = .ok (.goto 4, 3) := by decide +kernel
theorem d59_117 : decode (zbyt 59) 117 = .ok (.iconst 0, 1) := by decide +kernel
theorem d59_118 : decode (zbyt 59) 118 = .ok (.ireturn, 1) := by decide +kernel
