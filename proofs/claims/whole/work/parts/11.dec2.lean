theorem d60_0 : decode (zbyt 60) 0 = .ok (.aload_n 0, 1) := by decide +kernel
theorem d60_1 : decode (zbyt 60) 1 = .ok (.bipush 44, 2) := by decide +kernel
theorem d60_3 : decode (zbyt 60) 3 = .ok (.invokevirtual 22, 3) := by decide +kernel
theorem d60_6 : decode (zbyt 60) 6 = .ok (.ifCond .ne 5, 3) := by decide +kernel
theorem d60_9 : decode (zbyt 60) 9 = .ok (.iconst 0, 1) := by decide +kernel
theorem d60_10 : decode (zbyt 60) 10 = .ok (.ireturn, 1) := by decide +kernel
theorem d60_11 : decode (zbyt 60) 11 = .ok (.aload_n 0, 1) := by decide +kernel
theorem d60_12 : decode (zbyt 60) 12 = .ok (.iconst 0, 1) := by decide +kernel
theorem d60_13 : decode (zbyt 60) 13 = .ok (.invokevirtual 26, 3) := by decide +kernel
theorem d60_16 : decode (zbyt 60) 16 = .ok (.istore_n 2, 1) := by decide +kernel
theorem d60_17 : decode (zbyt 60) 17 = .ok (.iload_n 2, 1) := by decide +kernel
theorem d60_18 : decode (zbyt 60) 18 = .ok (.bipush (-9), 2) := by decide +kernel
theorem d60_20 : decode (zbyt 60) 20 = .ok (.if_icmp .ne 5, 3) := by decide +kernel
theorem d60_23 : decode (zbyt 60) 23 = .ok (.iconst 0, 1) := by decide +kernel
theorem d60_24 : decode (zbyt 60) 24 = .ok (.ireturn, 1) := by decide +kernel
theorem d60_25 : decode (zbyt 60) 25 = .ok (.aload_n 0, 1) := by decide +kernel
theorem d60_26 : decode (zbyt 60) 26 = .ok (.iload_n 2, 1) := by decide +kernel
theorem d60_27 : decode (zbyt 60) 27 = .ok (.ifCond .ne 7, 3) := by decide +kernel
theorem d60_30 : decode (zbyt 60) 30 = .ok (.iconst 1, 1) := by decide +kernel
theorem d60_31 : decode (zbyt 60) 31 = .ok (.goto 4, 3) := by decide +kernel
theorem d60_34 : decode (zbyt 60) 34 = .ok (.iconst 0, 1) := by decide +kernel
theorem d60_35 : decode (zbyt 60) 35 = .ok (.invokevirtual 26, 3) := by decide +kernel
theorem d60_38 : decode (zbyt 60) 38 = .ok (.istore_n 3, 1) := by decide +kernel
theorem d60_39 : decode (zbyt 60) 39 = .ok (.iload_n 3, 1) := by decide +kernel
theorem d60_40 : decode (zbyt 60) 40 = .ok (.bipush (-9), 2) := by decide +kernel
theorem d60_42 : decode (zbyt 60) 42 = .ok (.if_icmp .ne 5, 3) := by decide +kernel
theorem d60_45 : decode (zbyt 60) 45 = .ok (.iconst 0, 1) := by decide +kernel
theorem d60_46 : decode (zbyt 60) 46 = .ok (.ireturn, 1) := by decide +kernel
theorem d60_47 : decode (zbyt 60) 47 = .ok (.aload_n 1, 1) := by decide +kernel
theorem d60_48 : decode (zbyt 60) 48 = .ok (.bipush 10, 2) := by decide +kernel
theorem d60_50 : decode (zbyt 60) 50 = .ok (.iload_n 2, 1) := by decide +kernel
theorem d60_51 : decode (zbyt 60) 51 = .ok (.imul, 1) := by decide +kernel
theorem d60_52 : decode (zbyt 60) 52 = .ok (.iload_n 3, 1) := by decide +kernel
theorem d60_53 : decode (zbyt 60) 53 = .ok (.iadd, 1) := by decide +kernel
theorem d60_54 : decode (zbyt 60) 54 = .ok (.invokevirtual 50, 3) := by decide +kernel
theorem d60_57 : decode (zbyt 60) 57 = .ok (.iconst 1, 1) := by decide +kernel
theorem d60_58 : decode (zbyt 60) 58 = .ok (.ireturn, 1) := by decide +kernel
theorem d61_0 : decode (zbyt 61) 0 = .ok (.aload_n 0, 1) := by decide +kernel
theorem d61_1 : decode (zbyt 61) 1 = .ok (.bipush 59, 2) := by decide +kernel
theorem d61_3 : decode (zbyt 61) 3 = .ok (.invokevirtual 22, 3) := by decide +kernel
theorem d61_6 : decode (zbyt 61) 6 = .ok (.ifCond .ne 5, 3) := by decide +kernel
theorem d61_9 : decode (zbyt 61) 9 = .ok (.iconst 0, 1) := by decide +kernel
theorem d61_10 : decode (zbyt 61) 10 = .ok (.ireturn, 1) := by decide +kernel
theorem d61_11 : decode (zbyt 61) 11 = .ok (.aload_n 0, 1) := by decide +kernel
theorem d61_12 : decode (zbyt 61) 12 = .ok (.invokevirtual 53, 3) := by decide +kernel
theorem d61_15 : decode (zbyt 61) 15 = .ok (.istore_n 2, 1) := by decide +kernel
theorem d61_16 : decode (zbyt 61) 16 = .ok (.iload_n 2, 1) := by decide +kernel
theorem d61_17 : decode (zbyt 61) 17 = .ok (.bipush (-9), 2) := by decide +kernel
theorem d61_19 : decode (zbyt 61) 19 = .ok (.if_icmp .ne 5, 3) := by decide +kernel
theorem d61_22 : decode (zbyt 61) 22 = .ok (.iconst 0, 1) := by decide +kernel
theorem d61_23 : decode (zbyt 61) 23 = .ok (.ireturn, 1) := by decide +kernel
theorem d61_24 : decode (zbyt 61) 24 = .ok (.aload_n 0, 1) := by decide +kernel
theorem d61_25 : decode (zbyt 61) 25 = .ok (.iconst 1, 1) := by decide +kernel
theorem d61_26 : decode (zbyt 61) 26 = .ok (.invokevirtual 26, 3) := by decide +kernel
theorem d61_29 : decode (zbyt 61) 29 = .ok (.istore_n 3, 1) := by decide +kernel
theorem d61_30 : decode (zbyt 61) 30 = .ok (.iload_n 3, 1) := by decide +kernel
theorem d61_31 : decode (zbyt 61) 31 = .ok (.bipush (-9), 2) := by decide +kernel
theorem d61_33 : decode (zbyt 61) 33 = .ok (.if_icmp .ne 5, 3) := by decide +kernel
theorem d61_36 : decode (zbyt 61) 36 = .ok (.iconst 0, 1) := by decide +kernel
theorem d61_37 : decode (zbyt 61) 37 = .ok (.ireturn, 1) := by decide +kernel
theorem d61_38 : decode (zbyt 61) 38 = .ok (.aload_n 0, 1) := by decide +kernel
theorem d61_39 : decode (zbyt 61) 39 = .ok (.iconst 1, 1) := by decide +kernel
theorem d61_40 : decode (zbyt 61) 40 = .ok (.invokevirtual 26, 3) := by decide +kernel
theorem d61_43 : decode (zbyt 61) 43 = .ok (.istore 4, 2) := by decide +kernel
theorem d61_45 : decode (zbyt 61) 45 = .ok (.iload 4, 2) := by decide +kernel
theorem d61_47 : decode (zbyt 61) 47 = .ok (.bipush (-9), 2) := by decide +kernel
theorem d61_49 : decode (zbyt 61) 49 = .ok (.if_icmp .ne 5, 3) := by decide +kernel
theorem d61_52 : decode (zbyt 61) 52 = .ok (.iconst 0, 1) := by decide +kernel
theorem d61_53 : decode (zbyt 61) 53 = .ok (.ireturn, 1) := by decide +kernel
theorem d61_54 : decode (zbyt 61) 54 = .ok (.aload_n 1, 1) := by decide +kernel
theorem d61_55 : decode (zbyt 61) 55 = .ok (.iload_n 2, 1) := by decide +kernel
theorem d61_56 : decode (zbyt 61) 56 = .ok (.iload_n 3, 1) := by decide +kernel
theorem d61_57 : decode (zbyt 61) 57 = .ok (.iload 4, 2) := by decide +kernel
theorem d61_59 : decode (zbyt 61) 59 = .ok (.invokevirtual 56, 3) := by decide +kernel
theorem d61_62 : decode (zbyt 61) 62 = .ok (.iconst 1, 1) := by decide +kernel
theorem d61_63 : decode (zbyt 61) 63 = .ok (.ireturn, 1) := by decide +kernel
theorem d62_0 : decode (zbyt 62) 0 = .ok (.aload_n 0, 1) := by decide +kernel
theorem d62_1 : decode (zbyt 62) 1 = .ok (.invokevirtual 36, 3) := by decide +kernel
theorem d62_4 : decode (zbyt 62) 4 = .ok (.invokestatic 60, 3) := by decide +kernel
theorem d62_7 : decode (zbyt 62) 7 = .ok (.istore_n 1, 1) := by decide +kernel
theorem d62_8 : decode (zbyt 62) 8 = .ok (.iload_n 1, 1) := by decide +kernel
theorem d62_9 : decode (zbyt 62) 9 = .ok (.bipush (-9), 2) := by decide +kernel
theorem d62_11 : decode (zbyt 62) 11 = .ok (.if_icmp .eq 13, 3) := by decide +kernel
theorem d62_14 : decode (zbyt 62) 14 = .ok (.aload_n 0, 1) := by decide +kernel
theorem d62_15 : decode (zbyt 62) 15 = .ok (.dup, 1) := by decide +kernel
theorem d62_16 : decode (zbyt 62) 16 = .ok (.getfield 47, 3) := by decide +kernel
theorem d62_19 : decode (zbyt 62) 19 = .ok (.iconst 1, 1) := by decide +kernel
theorem d62_20 : decode (zbyt 62) 20 = .ok (.iadd, 1) := by decide +kernel
theorem d62_21 : decode (zbyt 62) 21 = .ok (.putfield 47, 3) := by decide +kernel
theorem d62_24 : decode (zbyt 62) 24 = .ok (.iload_n 1, 1) := by decide +kernel
theorem d62_25 : decode (zbyt 62) 25 = .ok (.ireturn, 1) := by decide +kernel
theorem d63_0 : decode (zbyt 63) 0 = .ok (.iload_n 0, 1) := by decide +kernel
theorem d63_1 : decode (zbyt 63) 1 = .ok (.bipush 99, 2) := by decide +kernel
theorem d63_3 : decode (zbyt 63) 3 = .ok (.if_icmp .ne 5, 3) := by decide +kernel
theorem d63_6 : decode (zbyt 63) 6 = .ok (.iconst 0, 1) := by decide +kernel
theorem d63_7 : decode (zbyt 63) 7 = .ok (.ireturn, 1) := by decide +kernel
theorem d63_8 : decode (zbyt 63) 8 = .ok (.iload_n 0, 1) := by decide +kernel
theorem d63_9 : decode (zbyt 63) 9 = .ok (.bipush 109, 2) := by decide +kernel
theorem d63_11 : decode (zbyt 63) 11 = .ok (.if_icmp .ne 5, 3) := by decide +kernel
theorem d63_14 : decode (zbyt 63) 14 = .ok (.iconst 1, 1) := by decide +kernel
theorem d63_15 : decode (zbyt 63) 15 = .ok (.ireturn, 1) := by decide +kernel
theorem d63_16 : decode (zbyt 63) 16 = .ok (.iload_n 0, 1) := by decide +kernel
theorem d63_17 : decode (zbyt 63) 17 = .ok (.bipush 117, 2) := by decide +kernel
theorem d63_19 : decode (zbyt 63) 19 = .ok (.if_icmp .ne 7, 3) := by decide +kernel
theorem d63_22 : decode (zbyt 63) 22 = .ok (.iconst 2, 1) := by decide +kernel
theorem d63_23 : decode (zbyt 63) 23 = .ok (.goto 5, 3) := by decide +kernel
theorem d63_26 : decode (zbyt 63) 26 = .ok (.bipush (-9), 2) := by decide +kernel
theorem d63_28 : decode (zbyt 63) 28 = .ok (.ireturn, 1) := by decide +kernel
theorem d64_0 : decode (zbyt 64) 0 = .ok (.aload_n 0, 1) := by decide +kernel
theorem d64_1 : decode (zbyt 64) 1 = .ok (.invokevirtual 36, 3) := by decide +kernel
theorem d64_4 : decode (zbyt 64) 4 = .ok (.istore_n 2, 1) := by decide +kernel
theorem d64_5 : decode (zbyt 64) 5 = .ok (.iload_n 2, 1) := by decide +kernel
theorem d64_6 : decode (zbyt 64) 6 = .ok (.bipush 48, 2) := by decide +kernel
theorem d64_8 : decode (zbyt 64) 8 = .ok (.iload_n 1, 1) := by decide +kernel
theorem d64_9 : decode (zbyt 64) 9 = .ok (.iadd, 1) := by decide +kernel
theorem d64_10 : decode (zbyt 64) 10 = .ok (.if_icmp .lt 9, 3) := by decide +kernel
theorem d64_13 : decode (zbyt 64) 13 = .ok (.iload_n 2, 1) := by decide +kernel
theorem d64_14 : decode (zbyt 64) 14 = .ok (.bipush 57, 2) := by decide +kernel
theorem d64_16 : decode (zbyt 64) 16 = .ok (.if_icmp .le 6, 3) := by decide +kernel
theorem d64_19 : decode (zbyt 64) 19 = .ok (.bipush (-9), 2) := by decide +kernel
theorem d64_21 : decode (zbyt 64) 21 = .ok (.ireturn, 1) := by decide +kernel
theorem d64_22 : decode (zbyt 64) 22 = .ok (.aload_n 0, 1) := by decide +kernel
theorem d64_23 : decode (zbyt 64) 23 = .ok (.dup, 1) := by decide +kernel
theorem d64_24 : decode (zbyt 64) 24 = .ok (.getfield 47, 3) := by decide +kernel
theorem d64_27 : decode (zbyt 64) 27 = .ok (.iconst 1, 1) := by decide +kernel
theorem d64_28 : decode (zbyt 64) 28 = .ok (.iadd, 1) := by decide +kernel
theorem d64_29 : decode (zbyt 64) 29 = .ok (.putfield 47, 3) := by decide +kernel
theorem d64_32 : decode (zbyt 64) 32 = .ok (.iload_n 2, 1) := by decide +kernel
theorem d64_33 : decode (zbyt 64) 33 = .ok (.bipush 48, 2) := by decide +kernel
theorem d64_35 : decode (zbyt 64) 35 = .ok (.isub, 1) := by decide +kernel
theorem d64_36 : decode (zbyt 64) 36 = .ok (.ireturn, 1) := by decide +kernel
theorem d65_0 : decode (zbyt 65) 0 = .ok (.aload_n 0, 1) := by decide +kernel
theorem d65_1 : decode (zbyt 65) 1 = .ok (.invokevirtual 36, 3) := by decide +kernel
theorem d65_4 : decode (zbyt 65) 4 = .ok (.iload_n 1, 1) := by decide +kernel
theorem d65_5 : decode (zbyt 65) 5 = .ok (.if_icmp .eq 5, 3) := by decide +kernel
theorem d65_8 : decode (zbyt 65) 8 = .ok (.iconst 0, 1) := by decide +kernel
theorem d65_9 : decode (zbyt 65) 9 = .ok (.ireturn, 1) := by decide +kernel
theorem d65_10 : decode (zbyt 65) 10 = .ok (.aload_n 0, 1) := by decide +kernel
theorem d65_11 : decode (zbyt 65) 11 = .ok (.dup, 1) := by decide +kernel
theorem d65_12 : decode (zbyt 65) 12 = .ok (.getfield 47, 3) := by decide +kernel
theorem d65_15 : decode (zbyt 65) 15 = .ok (.iconst 1, 1) := by decide +kernel
theorem d65_16 : decode (zbyt 65) 16 = .ok (.iadd, 1) := by decide +kernel
theorem d65_17 : decode (zbyt 65) 17 = .ok (.putfield 47, 3) := by decide +kernel
theorem d65_20 : decode (zbyt 65) 20 = .ok (.iconst 1, 1) := by decide +kernel
theorem d65_21 : decode (zbyt 65) 21 = .ok (.ireturn, 1) := by decide +kernel
theorem d66_0 : decode (zbyt 66) 0 = .ok (.aload_n 0, 1) := by decide +kernel
theorem d66_1 : decode (zbyt 66) 1 = .ok (.getfield 47, 3) := by decide +kernel
theorem d66_4 : decode (zbyt 66) 4 = .ok (.aload_n 0, 1) := by decide +kernel
theorem d66_5 : decode (zbyt 66) 5 = .ok (.getfield 19, 3) := by decide +kernel
theorem d66_8 : decode (zbyt 66) 8 = .ok (.if_icmp .ge 22, 3) := by decide +kernel
theorem d66_11 : decode (zbyt 66) 11 = .ok (.aload_n 0, 1) := by decide +kernel
theorem d66_12 : decode (zbyt 66) 12 = .ok (.getfield 9, 3) := by decide +kernel
theorem d66_15 : decode (zbyt 66) 15 = .ok (.aload_n 0, 1) := by decide +kernel
theorem d66_16 : decode (zbyt 66) 16 = .ok (.getfield 15, 3) := by decide +kernel
theorem d66_19 : decode (zbyt 66) 19 = .ok (.aload_n 0, 1) := by decide +kernel
theorem d66_20 : decode (zbyt 66) 20 = .ok (.getfield 47, 3) := by decide +kernel
theorem d66_23 : decode (zbyt 66) 23 = .ok (.iadd, 1) := by decide +kernel
theorem d66_24 : decode (zbyt 66) 24 = .ok (.invokevirtual 63, 3) := by decide +kernel
theorem d66_27 : decode (zbyt 66) 27 = .ok (.goto 5, 3) := by decide +kernel
theorem d66_30 : decode (zbyt 66) 30 = .ok (.bipush (-9), 2) := by decide +kernel
theorem d66_32 : decode (zbyt 66) 32 = .ok (.ireturn, 1) := by decide +kernel
theorem d67_0 : decode (zbyt 67) 0 = .ok (.aload_n 0, 1) := by decide +kernel
theorem d67_1 : decode (zbyt 67) 1 = .ok (.invokespecial 3, 3) := by decide +kernel
theorem d67_4 : decode (zbyt 67) 4 = .ok (.aload_n 0, 1) := by decide +kernel
theorem d67_5 : decode (zbyt 67) 5 = .ok (.new 9, 3) := by decide +kernel
theorem d67_8 : decode (zbyt 67) 8 = .ok (.dup, 1) := by decide +kernel
theorem d67_9 : decode (zbyt 67) 9 = .ok (.invokespecial 11, 3) := by decide +kernel
theorem d67_12 : decode (zbyt 67) 12 = .ok (.putfield 12, 3) := by decide +kernel
theorem d67_15 : decode (zbyt 67) 15 = .ok (.aload_n 0, 1) := by decide +kernel
theorem d67_16 : decode (zbyt 67) 16 = .ok (.new 9, 3) := by decide +kernel
theorem d67_19 : decode (zbyt 67) 19 = .ok (.dup, 1) := by decide +kernel
theorem d67_20 : decode (zbyt 67) 20 = .ok (.invokespecial 11, 3) := by decide +kernel
theorem d67_23 : decode (zbyt 67) 23 = .ok (.putfield 18, 3) := by decide +kernel
theorem d67_26 : decode (zbyt 67) 26 = .ok (.aload_n 0, 1) := by decide +kernel
theorem d67_27 : decode (zbyt 67) 27 = .ok (.new 21, 3) := by decide +kernel
theorem d67_30 : decode (zbyt 67) 30 = .ok (.dup, 1) := by decide +kernel
theorem d67_31 : decode (zbyt 67) 31 = .ok (.invokespecial 23, 3) := by decide +kernel
theorem d67_34 : decode (zbyt 67) 34 = .ok (.putfield 24, 3) := by decide +kernel
theorem d67_37 : decode (zbyt 67) 37 = .ok (.aload_n 0, 1) := by decide +kernel
theorem d67_38 : decode (zbyt 67) 38 = .ok (.new 28, 3) := by decide +kernel
theorem d67_41 : decode (zbyt 67) 41 = .ok (.dup, 1) := by decide +kernel
theorem d67_42 : decode (zbyt 67) 42 = .ok (.invokespecial 30, 3) := by decide +kernel
theorem d67_45 : decode (zbyt 67) 45 = .ok (.putfield 31, 3) := by decide +kernel
theorem d67_48 : decode (zbyt 67) 48 = .ok (.aload_n 0, 1) := by decide +kernel
theorem d67_49 : decode (zbyt 67) 49 = .ok (.new 35, 3) := by decide +kernel
theorem d67_52 : decode (zbyt 67) 52 = .ok (.dup, 1) := by decide +kernel
theorem d67_53 : decode (zbyt 67) 53 = .ok (.invokespecial 37, 3) := by decide +kernel
theorem d67_56 : decode (zbyt 67) 56 = .ok (.putfield 38, 3) := by decide +kernel
theorem d67_59 : decode (zbyt 67) 59 = .ok (.aload_n 0, 1) := by decide +kernel
theorem d67_60 : decode (zbyt 67) 60 = .ok (.iconst 4, 1) := by decide +kernel
theorem d67_61 : decode (zbyt 67) 61 = .ok (.anewarray 42, 3) := by decide +kernel
theorem d67_64 : decode (zbyt 67) 64 = .ok (.putfield 44, 3) := by decide +kernel
theorem d67_67 : decode (zbyt 67) 67 = .ok (.iconst 0, 1) := by decide +kernel
theorem d67_68 : decode (zbyt 67) 68 = .ok (.istore_n 1, 1) := by decide +kernel
theorem d67_69 : decode (zbyt 67) 69 = .ok (.iload_n 1, 1) := by decide +kernel
theorem d67_70 : decode (zbyt 67) 70 = .ok (.aload_n 0, 1) := by decide +kernel
theorem d67_71 : decode (zbyt 67) 71 = .ok (.getfield 44, 3) := by decide +kernel
theorem d67_74 : decode (zbyt 67) 74 = .ok (.arraylength, 1) := by decide +kernel
theorem d67_75 : decode (zbyt 67) 75 = .ok (.if_icmp .ge 22, 3) := by decide +kernel
theorem d67_78 : decode (zbyt 67) 78 = .ok (.aload_n 0, 1) := by decide +kernel
theorem d67_79 : decode (zbyt 67) 79 = .ok (.getfield 44, 3) := by decide +kernel
theorem d67_82 : decode (zbyt 67) 82 = .ok (.iload_n 1, 1) := by decide +kernel
theorem d67_83 : decode (zbyt 67) 83 = .ok (.new 42, 3) := by decide +kernel
theorem d67_86 : decode (zbyt 67) 86 = .ok (.dup, 1) := by decide +kernel
theorem d67_87 : decode (zbyt 67) 87 = .ok (.invokespecial 48, 3) := by decide +kernel
theorem d67_90 : decode (zbyt 67) 90 = .ok (.aastore, 1) := by decide +kernel
theorem d67_91 : decode (zbyt 67) 91 = .ok (.iinc 1 1, 3) := by decide +kernel
theorem d67_94 : decode (zbyt 67) 94 = .ok (.goto (-25), 3) := by decide +kernel
theorem d67_97 : decode (zbyt 67) 97 = .ok (.return_, 1) := by decide +kernel
theorem d68_0 : decode (zbyt 68) 0 = .ok (.aload_n 0, 1) := by decide +kernel
theorem d68_1 : decode (zbyt 68) 1 = .ok (.iconst 0, 1) := by decide +kernel
theorem d68_2 : decode (zbyt 68) 2 = .ok (.putfield 49, 3) := by decide +kernel
theorem d68_5 : decode (zbyt 68) 5 = .ok (.aload_n 0, 1) := by decide +kernel
theorem d68_6 : decode (zbyt 68) 6 = .ok (.iload_n 1, 1) := by decide +kernel
theorem d68_7 : decode (zbyt 68) 7 = .ok (.invokevirtual 53, 3) := by decide +kernel
theorem d68_10 : decode (zbyt 68) 10 = .ok (.astore 5, 2) := by decide +kernel
theorem d68_12 : decode (zbyt 68) 12 = .ok (.aload 5, 2) := by decide +kernel
theorem d68_14 : decode (zbyt 68) 14 = .ok (.ifnonnull 5, 3) := by decide +kernel
theorem d68_17 : decode (zbyt 68) 17 = .ok (.iconst (-1), 1) := by decide +kernel
theorem d68_18 : decode (zbyt 68) 18 = .ok (.ireturn, 1) := by decide +kernel
theorem d68_19 : decode (zbyt 68) 19 = .ok (.iload_n 2, 1) := by decide +kernel
theorem d68_20 : decode (zbyt 68) 20 = .ok (.invokestatic 57, 3) := by decide +kernel
theorem d68_23 : decode (zbyt 68) 23 = .ok (.ifCond .ne 6, 3) := by decide +kernel
theorem d68_26 : decode (zbyt 68) 26 = .ok (.bipush (-2), 2) := by decide +kernel
theorem d68_28 : decode (zbyt 68) 28 = .ok (.ireturn, 1) := by decide +kernel
theorem d68_29 : decode (zbyt 68) 29 = .ok (.aload 5, 2) := by decide +kernel
theorem d68_31 : decode (zbyt 68) 31 = .ok (.iload_n 2, 1) := by decide +kernel
theorem d68_32 : decode (zbyt 68) 32 = .ok (.invokestatic 61, 3) := by decide +kernel
theorem d68_35 : decode (zbyt 68) 35 = .ok (.istore 6, 2) := by decide +kernel
theorem d68_37 : decode (zbyt 68) 37 = .ok (.iload 6, 2) := by decide +kernel
theorem d68_39 : decode (zbyt 68) 39 = .ok (.ifCond .ne 11, 3) := by decide +kernel
theorem d68_42 : decode (zbyt 68) 42 = .ok (.iload 4, 2) := by decide +kernel
theorem d68_44 : decode (zbyt 68) 44 = .ok (.ifCond .ge 6, 3) := by decide +kernel
theorem d68_47 : decode (zbyt 68) 47 = .ok (.iconst 4, 1) := by decide +kernel
theorem d68_48 : decode (zbyt 68) 48 = .ok (.istore 6, 2) := by decide +kernel
theorem d68_50 : decode (zbyt 68) 50 = .ok (.iload 6, 2) := by decide +kernel
theorem d68_52 : decode (zbyt 68) 52 = .ok (.ifCond .ne 17, 3) := by decide +kernel
theorem d68_55 : decode (zbyt 68) 55 = .ok (.aload 5, 2) := by decide +kernel
theorem d68_57 : decode (zbyt 68) 57 = .ok (.iload_n 3, 1) := by decide +kernel
theorem d68_58 : decode (zbyt 68) 58 = .ok (.iload 4, 2) := by decide +kernel
theorem d68_60 : decode (zbyt 68) 60 = .ok (.invokevirtual 65, 3) := by decide +kernel
theorem d68_63 : decode (zbyt 68) 63 = .ok (.ifCond .ne 6, 3) := by decide +kernel
theorem d68_66 : decode (zbyt 68) 66 = .ok (.iconst 3, 1) := by decide +kernel
theorem d68_67 : decode (zbyt 68) 67 = .ok (.istore 6, 2) := by decide +kernel
theorem d68_69 : decode (zbyt 68) 69 = .ok (.iload 6, 2) := by decide +kernel
theorem d68_71 : decode (zbyt 68) 71 = .ok (.ifCond .eq 10, 3) := by decide +kernel
theorem d68_74 : decode (zbyt 68) 74 = .ok (.aload_n 0, 1) := by decide +kernel
theorem d68_75 : decode (zbyt 68) 75 = .ok (.iload 6, 2) := by decide +kernel
theorem d68_77 : decode (zbyt 68) 77 = .ok (.invokevirtual 69, 3) := by decide +kernel
theorem d68_80 : decode (zbyt 68) 80 = .ok (.ireturn, 1) := by decide +kernel
theorem d68_81 : decode (zbyt 68) 81 = .ok (.new 73, 3) := by decide +kernel
theorem d68_84 : decode (zbyt 68) 84 = .ok (.dup, 1) := by decide +kernel
theorem d68_85 : decode (zbyt 68) 85 = .ok (.aload 5, 2) := by decide +kernel
theorem d68_87 : decode (zbyt 68) 87 = .ok (.iload_n 3, 1) := by decide +kernel
theorem d68_88 : decode (zbyt 68) 88 = .ok (.iload 4, 2) := by decide +kernel
theorem d68_90 : decode (zbyt 68) 90 = .ok (.invokespecial 75, 3) := by decide +kernel
theorem d68_93 : decode (zbyt 68) 93 = .ok (.astore 7, 2) := by decide +kernel
theorem d68_95 : decode (zbyt 68) 95 = .ok (.aload 7, 2) := by decide +kernel
theorem d68_97 : decode (zbyt 68) 97 = .ok (.aload_n 0, 1) := by decide +kernel
theorem d68_98 : decode (zbyt 68) 98 = .ok (.getfield 18, 3) := by decide +kernel
theorem d68_101 : decode (zbyt 68) 101 = .ok (.invokevirtual 78, 3) := by decide +kernel
theorem d68_104 : decode (zbyt 68) 104 = .ok (.ifCond .ne 12, 3) := by decide +kernel
theorem d68_107 : decode (zbyt 68) 107 = .ok (.bipush (-100), 2) := by decide +kernel
theorem d68_109 : decode (zbyt 68) 109 = .ok (.aload 7, 2) := by decide +kernel
theorem d68_111 : decode (zbyt 68) 111 = .ok (.getfield 82, 3) := by decide +kernel
theorem d68_114 : decode (zbyt 68) 114 = .ok (.isub, 1) := by decide +kernel
theorem d68_115 : decode (zbyt 68) 115 = .ok (.ireturn, 1) := by decide +kernel
theorem d68_116 : decode (zbyt 68) 116 = .ok (.aload_n 0, 1) := by decide +kernel
theorem d68_117 : decode (zbyt 68) 117 = .ok (.getfield 12, 3) := by decide +kernel
theorem d68_120 : decode (zbyt 68) 120 = .ok (.aload_n 0, 1) := by decide +kernel
theorem d68_121 : decode (zbyt 68) 121 = .ok (.getfield 18, 3) := by decide +kernel
theorem d68_124 : decode (zbyt 68) 124 = .ok (.invokevirtual 85, 3) := by decide +kernel
theorem d68_127 : decode (zbyt 68) 127 = .ok (.aload_n 0, 1) := by decide +kernel
theorem d68_128 : decode (zbyt 68) 128 = .ok (.getfield 31, 3) := by decide +kernel
theorem d68_131 : decode (zbyt 68) 131 = .ok (.iconst 0, 1) := by decide +kernel
theorem d68_132 : decode (zbyt 68) 132 = .ok (.putfield 89, 3) := by decide +kernel
theorem d68_135 : decode (zbyt 68) 135 = .ok (.aload_n 0, 1) := by decide +kernel
theorem d68_136 : decode (zbyt 68) 136 = .ok (.getfield 12, 3) := by decide +kernel
theorem d68_139 : decode (zbyt 68) 139 = .ok (.getfield 92, 3) := by decide +kernel
theorem d68_142 : decode (zbyt 68) 142 = .ok (.ireturn, 1) := by decide +kernel
theorem d69_0 : decode (zbyt 69) 0 = .ok (.aload_n 0, 1) := by decide +kernel
theorem d69_1 : decode (zbyt 69) 1 = .ok (.getfield 12, 3) := by decide +kernel
theorem d69_4 : decode (zbyt 69) 4 = .ok (.iload_n 1, 1) := by decide +kernel
theorem d69_5 : decode (zbyt 69) 5 = .ok (.invokevirtual 95, 3) := by decide +kernel
theorem d69_8 : decode (zbyt 69) 8 = .ok (.astore_n 3, 1) := by decide +kernel
theorem d69_9 : decode (zbyt 69) 9 = .ok (.aload_n 3, 1) := by decide +kernel
theorem d69_10 : decode (zbyt 69) 10 = .ok (.ifnonnull 5, 3) := by decide +kernel
theorem d69_13 : decode (zbyt 69) 13 = .ok (.iconst (-1), 1) := by decide +kernel
theorem d69_14 : decode (zbyt 69) 14 = .ok (.ireturn, 1) := by decide +kernel
theorem d69_15 : decode (zbyt 69) 15 = .ok (.iload_n 2, 1) := by decide +kernel
theorem d69_16 : decode (zbyt 69) 16 = .ok (.tableswitch 120 0 8 #[52, 57, 62, 67, 79, 84, 93, 102, 115], 52) := by decide +kernel
theorem d69_68 : decode (zbyt 69) 68 = .ok (.aload_n 3, 1) := by decide +kernel
theorem d69_69 : decode (zbyt 69) 69 = .ok (.getfield 99, 3) := by decide +kernel
theorem d69_72 : decode (zbyt 69) 72 = .ok (.ireturn, 1) := by decide +kernel
theorem d69_73 : decode (zbyt 69) 73 = .ok (.aload_n 3, 1) := by decide +kernel
theorem d69_74 : decode (zbyt 69) 74 = .ok (.getfield 104, 3) := by decide +kernel
theorem d69_77 : decode (zbyt 69) 77 = .ok (.ireturn, 1) := by decide +kernel
theorem d69_78 : decode (zbyt 69) 78 = .ok (.aload_n 3, 1) := by decide +kernel
theorem d69_79 : decode (zbyt 69) 79 = .ok (.getfield 107, 3) := by decide +kernel
theorem d69_82 : decode (zbyt 69) 82 = .ok (.ireturn, 1) := by decide +kernel
theorem d69_83 : decode (zbyt 69) 83 = .ok (.aload_n 3, 1) := by decide +kernel
theorem d69_84 : decode (zbyt 69) 84 = .ok (.getfield 99, 3) := by decide +kernel
theorem d69_87 : decode (zbyt 69) 87 = .ok (.aload_n 3, 1) := by decide +kernel
theorem d69_88 : decode (zbyt 69) 88 = .ok (.getfield 104, 3) := by decide +kernel
theorem d69_91 : decode (zbyt 69) 91 = .ok (.invokestatic 110, 3) := by decide +kernel
theorem d69_94 : decode (zbyt 69) 94 = .ok (.ireturn, 1) := by decide +kernel
theorem d69_95 : decode (zbyt 69) 95 = .ok (.aload_n 3, 1) := by decide +kernel
theorem d69_96 : decode (zbyt 69) 96 = .ok (.getfield 114, 3) := by decide +kernel
theorem d69_99 : decode (zbyt 69) 99 = .ok (.ireturn, 1) := by decide +kernel
theorem d69_100 : decode (zbyt 69) 100 = .ok (.aload_n 0, 1) := by decide +kernel
theorem d69_101 : decode (zbyt 69) 101 = .ok (.getfield 12, 3) := by decide +kernel
theorem d69_104 : decode (zbyt 69) 104 = .ok (.aload_n 3, 1) := by decide +kernel
theorem d69_105 : decode (zbyt 69) 105 = .ok (.invokevirtual 117, 3) := by decide +kernel
theorem d69_108 : decode (zbyt 69) 108 = .ok (.ireturn, 1) := by decide +kernel
theorem d69_109 : decode (zbyt 69) 109 = .ok (.aload_n 0, 1) := by decide +kernel
theorem d69_110 : decode (zbyt 69) 110 = .ok (.getfield 12, 3) := by decide +kernel
theorem d69_113 : decode (zbyt 69) 113 = .ok (.aload_n 3, 1) := by decide +kernel
theorem d69_114 : decode (zbyt 69) 114 = .ok (.invokevirtual 121, 3) := by decide +kernel
theorem d69_117 : decode (zbyt 69) 117 = .ok (.ireturn, 1) := by decide +kernel
theorem d69_118 : decode (zbyt 69) 118 = .ok (.aload_n 3, 1) := by decide +kernel
theorem d69_119 : decode (zbyt 69) 119 = .ok (.getfield 124, 3) := by decide +kernel
theorem d69_122 : decode (zbyt 69) 122 = .ok (.ifCond .eq 7, 3) := by decide +kernel
theorem d69_125 : decode (zbyt 69) 125 = .ok (.iconst 1, 1) := by decide +kernel
theorem d69_126 : decode (zbyt 69) 126 = .ok (.goto 4, 3) := by decide +kernel
theorem d69_129 : decode (zbyt 69) 129 = .ok (.iconst 0, 1) := by decide +kernel
theorem d69_130 : decode (zbyt 69) 130 = .ok (.ireturn, 1) := by decide +kernel
theorem d69_131 : decode (zbyt 69) 131 = .ok (.aload_n 3, 1) := by decide +kernel
theorem d69_132 : decode (zbyt 69) 132 = .ok (.getfield 128, 3) := by decide +kernel
theorem d69_135 : decode (zbyt 69) 135 = .ok (.ireturn, 1) := by decide +kernel
theorem d69_136 : decode (zbyt 69) 136 = .ok (.bipush (-2), 2) := by decide +kernel
theorem d69_138 : decode (zbyt 69) 138 = .ok (.ireturn, 1) := by decide +kernel
theorem d70_0 : decode (zbyt 70) 0 = .ok (.aload_n 0, 1) := by decide +kernel
theorem d70_1 : decode (zbyt 70) 1 = .ok (.getfield 12, 3) := by decide +kernel
theorem d70_4 : decode (zbyt 70) 4 = .ok (.iload_n 1, 1) := by decide +kernel
theorem d70_5 : decode (zbyt 70) 5 = .ok (.invokevirtual 131, 3) := by decide +kernel
theorem d70_8 : decode (zbyt 70) 8 = .ok (.ifCond .eq 14, 3) := by decide +kernel
theorem d70_11 : decode (zbyt 70) 11 = .ok (.aload_n 0, 1) := by decide +kernel
theorem d70_12 : decode (zbyt 70) 12 = .ok (.getfield 12, 3) := by decide +kernel
theorem d70_15 : decode (zbyt 70) 15 = .ok (.iload_n 1, 1) := by decide +kernel
theorem d70_16 : decode (zbyt 70) 16 = .ok (.invokevirtual 134, 3) := by decide +kernel
theorem d70_19 : decode (zbyt 70) 19 = .ok (.goto 4, 3) := by decide +kernel
theorem d70_22 : decode (zbyt 70) 22 = .ok (.iconst (-1), 1) := by decide +kernel
theorem d70_23 : decode (zbyt 70) 23 = .ok (.ireturn, 1) := by decide +kernel
theorem d71_0 : decode (zbyt 71) 0 = .ok (.aload_n 0, 1) := by decide +kernel
theorem d71_1 : decode (zbyt 71) 1 = .ok (.getfield 12, 3) := by decide +kernel
theorem d71_4 : decode (zbyt 71) 4 = .ok (.invokevirtual 137, 3) := by decide +kernel
theorem d71_7 : decode (zbyt 71) 7 = .ok (.ifCond .ne 6, 3) := by decide +kernel
theorem d71_10 : decode (zbyt 71) 10 = .ok (.bipush (-3), 2) := by decide +kernel
theorem d71_12 : decode (zbyt 71) 12 = .ok (.ireturn, 1) := by decide +kernel
theorem d71_13 : decode (zbyt 71) 13 = .ok (.iload_n 1, 1) := by decide +kernel
theorem d71_14 : decode (zbyt 71) 14 = .ok (.invokestatic 141, 3) := by decide +kernel
theorem d71_17 : decode (zbyt 71) 17 = .ok (.ifCond .ne 6, 3) := by decide +kernel
theorem d71_20 : decode (zbyt 71) 20 = .ok (.bipush (-2), 2) := by decide +kernel
theorem d71_22 : decode (zbyt 71) 22 = .ok (.ireturn, 1) := by decide +kernel
theorem d71_23 : decode (zbyt 71) 23 = .ok (.aload_n 0, 1) := by decide +kernel
theorem d71_24 : decode (zbyt 71) 24 = .ok (.getfield 12, 3) := by decide +kernel
theorem d71_27 : decode (zbyt 71) 27 = .ok (.getfield 144, 3) := by decide +kernel
theorem d71_30 : decode (zbyt 71) 30 = .ok (.istore_n 2, 1) := by decide +kernel
theorem d71_31 : decode (zbyt 71) 31 = .ok (.aload_n 0, 1) := by decide +kernel
theorem d71_32 : decode (zbyt 71) 32 = .ok (.getfield 12, 3) := by decide +kernel
theorem d71_35 : decode (zbyt 71) 35 = .ok (.iload_n 1, 1) := by decide +kernel
theorem d71_36 : decode (zbyt 71) 36 = .ok (.putfield 144, 3) := by decide +kernel
theorem d71_39 : decode (zbyt 71) 39 = .ok (.iload_n 2, 1) := by decide +kernel
theorem d71_40 : decode (zbyt 71) 40 = .ok (.ireturn, 1) := by decide +kernel
theorem d72_0 : decode (zbyt 72) 0 = .ok (.aload_n 0, 1) := by decide +kernel
theorem d72_1 : decode (zbyt 72) 1 = .ok (.getfield 12, 3) := by decide +kernel
theorem d72_4 : decode (zbyt 72) 4 = .ok (.iload_n 1, 1) := by decide +kernel
theorem d72_5 : decode (zbyt 72) 5 = .ok (.invokevirtual 95, 3) := by decide +kernel
theorem d72_8 : decode (zbyt 72) 8 = .ok (.astore_n 3, 1) := by decide +kernel
theorem d72_9 : decode (zbyt 72) 9 = .ok (.aload_n 3, 1) := by decide +kernel
theorem d72_10 : decode (zbyt 72) 10 = .ok (.ifnonnull 5, 3) := by decide +kernel
theorem d72_13 : decode (zbyt 72) 13 = .ok (.iconst (-1), 1) := by decide +kernel
theorem d72_14 : decode (zbyt 72) 14 = .ok (.ireturn, 1) := by decide +kernel
theorem d72_15 : decode (zbyt 72) 15 = .ok (.iload_n 2, 1) := by decide +kernel
theorem d72_16 : decode (zbyt 72) 16 = .ok (.invokestatic 141, 3) := by decide +kernel
theorem d72_19 : decode (zbyt 72) 19 = .ok (.ifCond .ne 6, 3) := by decide +kernel
theorem d72_22 : decode (zbyt 72) 22 = .ok (.bipush (-2), 2) := by decide +kernel
theorem d72_24 : decode (zbyt 72) 24 = .ok (.ireturn, 1) := by decide +kernel
theorem d72_25 : decode (zbyt 72) 25 = .ok (.aload_n 3, 1) := by decide +kernel
theorem d72_26 : decode (zbyt 72) 26 = .ok (.getfield 104, 3) := by decide +kernel
theorem d72_29 : decode (zbyt 72) 29 = .ok (.istore 4, 2) := by decide +kernel
theorem d72_31 : decode (zbyt 72) 31 = .ok (.aload_n 3, 1) := by decide +kernel
theorem d72_32 : decode (zbyt 72) 32 = .ok (.iload_n 2, 1) := by decide +kernel
theorem d72_33 : decode (zbyt 72) 33 = .ok (.putfield 104, 3) := by decide +kernel
theorem d72_36 : decode (zbyt 72) 36 = .ok (.iload 4, 2) := by decide +kernel
theorem d72_38 : decode (zbyt 72) 38 = .ok (.ireturn, 1) := by decide +kernel
theorem d73_0 : decode (zbyt 73) 0 = .ok (.iload_n 1, 1) := by decide +kernel
theorem d73_1 : decode (zbyt 73) 1 = .ok (.iconst 1, 1) := by decide +kernel
theorem d73_2 : decode (zbyt 73) 2 = .ok (.if_icmp .lt 9, 3) := by decide +kernel
theorem d73_5 : decode (zbyt 73) 5 = .ok (.iload_n 1, 1) := by decide +kernel
theorem d73_6 : decode (zbyt 73) 6 = .ok (.bipush 99, 2) := by decide +kernel
theorem d73_8 : decode (zbyt 73) 8 = .ok (.if_icmp .le 6, 3) := by decide +kernel
theorem d73_11 : decode (zbyt 73) 11 = .ok (.bipush (-2), 2) := by decide +kernel
theorem d73_13 : decode (zbyt 73) 13 = .ok (.ireturn, 1) := by decide +kernel
theorem d73_14 : decode (zbyt 73) 14 = .ok (.aload_n 0, 1) := by decide +kernel
theorem d73_15 : decode (zbyt 73) 15 = .ok (.getfield 12, 3) := by decide +kernel
theorem d73_18 : decode (zbyt 73) 18 = .ok (.invokevirtual 137, 3) := by decide +kernel
theorem d73_21 : decode (zbyt 73) 21 = .ok (.ifCond .ne 6, 3) := by decide +kernel
theorem d73_24 : decode (zbyt 73) 24 = .ok (.bipush (-3), 2) := by decide +kernel
theorem d73_26 : decode (zbyt 73) 26 = .ok (.ireturn, 1) := by decide +kernel
theorem d73_27 : decode (zbyt 73) 27 = .ok (.iconst 0, 1) := by decide +kernel
theorem d73_28 : decode (zbyt 73) 28 = .ok (.istore_n 2, 1) := by decide +kernel
theorem d73_29 : decode (zbyt 73) 29 = .ok (.iconst 0, 1) := by decide +kernel
theorem d73_30 : decode (zbyt 73) 30 = .ok (.istore_n 3, 1) := by decide +kernel
theorem d73_31 : decode (zbyt 73) 31 = .ok (.iload_n 3, 1) := by decide +kernel
theorem d73_32 : decode (zbyt 73) 32 = .ok (.iload_n 1, 1) := by decide +kernel
theorem d73_33 : decode (zbyt 73) 33 = .ok (.if_icmp .ge 19, 3) := by decide +kernel
theorem d73_36 : decode (zbyt 73) 36 = .ok (.iload_n 2, 1) := by decide +kernel
theorem d73_37 : decode (zbyt 73) 37 = .ok (.aload_n 0, 1) := by decide +kernel
theorem d73_38 : decode (zbyt 73) 38 = .ok (.getfield 12, 3) := by decide +kernel
theorem d73_41 : decode (zbyt 73) 41 = .ok (.invokevirtual 147, 3) := by decide +kernel
theorem d73_44 : decode (zbyt 73) 44 = .ok (.iadd, 1) := by decide +kernel
theorem d73_45 : decode (zbyt 73) 45 = .ok (.istore_n 2, 1) := by decide +kernel
theorem d73_46 : decode (zbyt 73) 46 = .ok (.iinc 3 1, 3) := by decide +kernel
theorem d73_49 : decode (zbyt 73) 49 = .ok (.goto (-18), 3) := by decide +kernel
theorem d73_52 : decode (zbyt 73) 52 = .ok (.iload_n 2, 1) := by decide +kernel
theorem d73_53 : decode (zbyt 73) 53 = .ok (.ireturn, 1) := by decide +kernel
theorem d74_0 : decode (zbyt 74) 0 = .ok (.aload_n 0, 1) := by decide +kernel
theorem d74_1 : decode (zbyt 74) 1 = .ok (.getfield 12, 3) := by decide +kernel
theorem d74_4 : decode (zbyt 74) 4 = .ok (.iload_n 1, 1) := by decide +kernel
theorem d74_5 : decode (zbyt 74) 5 = .ok (.invokevirtual 95, 3) := by decide +kernel
theorem d74_8 : decode (zbyt 74) 8 = .ok (.astore_n 2, 1) := by decide +kernel
theorem d74_9 : decode (zbyt 74) 9 = .ok (.aload_n 2, 1) := by decide +kernel
theorem d74_10 : decode (zbyt 74) 10 = .ok (.ifnonnull 5, 3) := by decide +kernel
theorem d74_13 : decode (zbyt 74) 13 = .ok (.iconst (-1), 1) := by decide +kernel
theorem d74_14 : decode (zbyt 74) 14 = .ok (.ireturn, 1) := by decide +kernel
theorem d74_15 : decode (zbyt 74) 15 = .ok (.aload_n 2, 1) := by decide +kernel
theorem d74_16 : decode (zbyt 74) 16 = .ok (.getfield 124, 3) := by decide +kernel
theorem d74_19 : decode (zbyt 74) 19 = .ok (.ifCond .eq 6, 3) := by decide +kernel
theorem d74_22 : decode (zbyt 74) 22 = .ok (.bipush (-3), 2) := by decide +kernel
theorem d74_24 : decode (zbyt 74) 24 = .ok (.ireturn, 1) := by decide +kernel
theorem d74_25 : decode (zbyt 74) 25 = .ok (.aload_n 2, 1) := by decide +kernel
theorem d74_26 : decode (zbyt 74) 26 = .ok (.invokevirtual 151, 3) := by decide +kernel
theorem d74_29 : decode (zbyt 74) 29 = .ok (.aload_n 0, 1) := by decide +kernel
theorem d74_30 : decode (zbyt 74) 30 = .ok (.getfield 12, 3) := by decide +kernel
theorem d74_33 : decode (zbyt 74) 33 = .ok (.invokevirtual 154, 3) := by decide +kernel
theorem d74_36 : decode (zbyt 74) 36 = .ok (.invokestatic 157, 3) := by decide +kernel
theorem d74_39 : decode (zbyt 74) 39 = .ok (.ireturn, 1) := by decide +kernel
theorem d75_0 : decode (zbyt 75) 0 = .ok (.aload_n 0, 1) := by decide +kernel
theorem d75_1 : decode (zbyt 75) 1 = .ok (.getfield 12, 3) := by decide +kernel
theorem d75_4 : decode (zbyt 75) 4 = .ok (.iload_n 1, 1) := by decide +kernel
theorem d75_5 : decode (zbyt 75) 5 = .ok (.invokevirtual 95, 3) := by decide +kernel
theorem d75_8 : decode (zbyt 75) 8 = .ok (.astore_n 2, 1) := by decide +kernel
theorem d75_9 : decode (zbyt 75) 9 = .ok (.aload_n 2, 1) := by decide +kernel
theorem d75_10 : decode (zbyt 75) 10 = .ok (.ifnonnull 5, 3) := by decide +kernel
theorem d75_13 : decode (zbyt 75) 13 = .ok (.iconst (-1), 1) := by decide +kernel
theorem d75_14 : decode (zbyt 75) 14 = .ok (.ireturn, 1) := by decide +kernel
theorem d75_15 : decode (zbyt 75) 15 = .ok (.aload_n 2, 1) := by decide +kernel
theorem d75_16 : decode (zbyt 75) 16 = .ok (.getfield 124, 3) := by decide +kernel
theorem d75_19 : decode (zbyt 75) 19 = .ok (.ifCond .ne 6, 3) := by decide +kernel
theorem d75_22 : decode (zbyt 75) 22 = .ok (.bipush (-3), 2) := by decide +kernel
theorem d75_24 : decode (zbyt 75) 24 = .ok (.ireturn, 1) := by decide +kernel
theorem d75_25 : decode (zbyt 75) 25 = .ok (.aload_n 0, 1) := by decide +kernel
theorem d75_26 : decode (zbyt 75) 26 = .ok (.getfield 12, 3) := by decide +kernel
theorem d75_29 : decode (zbyt 75) 29 = .ok (.aload_n 2, 1) := by decide +kernel
theorem d75_30 : decode (zbyt 75) 30 = .ok (.invokevirtual 121, 3) := by decide +kernel
theorem d75_33 : decode (zbyt 75) 33 = .ok (.istore_n 3, 1) := by decide +kernel
theorem d75_34 : decode (zbyt 75) 34 = .ok (.aload_n 2, 1) := by decide +kernel
theorem d75_35 : decode (zbyt 75) 35 = .ok (.invokevirtual 162, 3) := by decide +kernel
theorem d75_38 : decode (zbyt 75) 38 = .ok (.iload_n 3, 1) := by decide +kernel
theorem d75_39 : decode (zbyt 75) 39 = .ok (.ireturn, 1) := by decide +kernel
theorem d76_0 : decode (zbyt 76) 0 = .ok (.aload_n 0, 1) := by decide +kernel
theorem d76_1 : decode (zbyt 76) 1 = .ok (.iconst 0, 1) := by decide +kernel
theorem d76_2 : decode (zbyt 76) 2 = .ok (.putfield 49, 3) := by decide +kernel
theorem d76_5 : decode (zbyt 76) 5 = .ok (.aload_n 0, 1) := by decide +kernel
theorem d76_6 : decode (zbyt 76) 6 = .ok (.iload_n 1, 1) := by decide +kernel
theorem d76_7 : decode (zbyt 76) 7 = .ok (.invokevirtual 53, 3) := by decide +kernel
theorem d76_10 : decode (zbyt 76) 10 = .ok (.astore 6, 2) := by decide +kernel
theorem d76_12 : decode (zbyt 76) 12 = .ok (.aload 6, 2) := by decide +kernel
theorem d76_14 : decode (zbyt 76) 14 = .ok (.ifnonnull 5, 3) := by decide +kernel
theorem d76_17 : decode (zbyt 76) 17 = .ok (.iconst (-1), 1) := by decide +kernel
theorem d76_18 : decode (zbyt 76) 18 = .ok (.ireturn, 1) := by decide +kernel
theorem d76_19 : decode (zbyt 76) 19 = .ok (.iload_n 2, 1) := by decide +kernel
theorem d76_20 : decode (zbyt 76) 20 = .ok (.invokestatic 57, 3) := by decide +kernel
theorem d76_23 : decode (zbyt 76) 23 = .ok (.ifCond .eq 23, 3) := by decide +kernel
theorem d76_26 : decode (zbyt 76) 26 = .ok (.iload 4, 2) := by decide +kernel
theorem d76_28 : decode (zbyt 76) 28 = .ok (.ifCond .lt 18, 3) := by decide +kernel
theorem d76_31 : decode (zbyt 76) 31 = .ok (.iload 4, 2) := by decide +kernel
theorem d76_33 : decode (zbyt 76) 33 = .ok (.bipush 20, 2) := by decide +kernel
theorem d76_35 : decode (zbyt 76) 35 = .ok (.if_icmp .gt 11, 3) := by decide +kernel
theorem d76_38 : decode (zbyt 76) 38 = .ok (.iload 5, 2) := by decide +kernel
theorem d76_40 : decode (zbyt 76) 40 = .ok (.invokestatic 165, 3) := by decide +kernel
theorem d76_43 : decode (zbyt 76) 43 = .ok (.ifCond .ne 6, 3) := by decide +kernel
theorem d76_46 : decode (zbyt 76) 46 = .ok (.bipush (-2), 2) := by decide +kernel
theorem d76_48 : decode (zbyt 76) 48 = .ok (.ireturn, 1) := by decide +kernel
theorem d76_49 : decode (zbyt 76) 49 = .ok (.aload_n 0, 1) := by decide +kernel
theorem d76_50 : decode (zbyt 76) 50 = .ok (.getfield 12, 3) := by decide +kernel
theorem d76_53 : decode (zbyt 76) 53 = .ok (.invokevirtual 137, 3) := by decide +kernel
theorem d76_56 : decode (zbyt 76) 56 = .ok (.ifCond .ne 6, 3) := by decide +kernel
theorem d76_59 : decode (zbyt 76) 59 = .ok (.bipush (-3), 2) := by decide +kernel
theorem d76_61 : decode (zbyt 76) 61 = .ok (.ireturn, 1) := by decide +kernel
theorem d76_62 : decode (zbyt 76) 62 = .ok (.aload 6, 2) := by decide +kernel
theorem d76_64 : decode (zbyt 76) 64 = .ok (.iload_n 2, 1) := by decide +kernel
theorem d76_65 : decode (zbyt 76) 65 = .ok (.invokestatic 61, 3) := by decide +kernel
theorem d76_68 : decode (zbyt 76) 68 = .ok (.istore 7, 2) := by decide +kernel
theorem d76_70 : decode (zbyt 76) 70 = .ok (.iload 7, 2) := by decide +kernel
theorem d76_72 : decode (zbyt 76) 72 = .ok (.ifCond .ne 19, 3) := by decide +kernel
theorem d76_75 : decode (zbyt 76) 75 = .ok (.aload 6, 2) := by decide +kernel
theorem d76_77 : decode (zbyt 76) 77 = .ok (.iload_n 3, 1) := by decide +kernel
theorem d76_78 : decode (zbyt 76) 78 = .ok (.iconst 2, 1) := by decide +kernel
theorem d76_79 : decode (zbyt 76) 79 = .ok (.iload 4, 2) := by decide +kernel
theorem d76_81 : decode (zbyt 76) 81 = .ok (.imul, 1) := by decide +kernel
theorem d76_82 : decode (zbyt 76) 82 = .ok (.invokevirtual 65, 3) := by decide +kernel
theorem d76_85 : decode (zbyt 76) 85 = .ok (.ifCond .ne 6, 3) := by decide +kernel
theorem d76_88 : decode (zbyt 76) 88 = .ok (.iconst 3, 1) := by decide +kernel
theorem d76_89 : decode (zbyt 76) 89 = .ok (.istore 7, 2) := by decide +kernel
theorem d76_91 : decode (zbyt 76) 91 = .ok (.iload 7, 2) := by decide +kernel
theorem d76_93 : decode (zbyt 76) 93 = .ok (.ifCond .eq 10, 3) := by decide +kernel
theorem d76_96 : decode (zbyt 76) 96 = .ok (.aload_n 0, 1) := by decide +kernel
theorem d76_97 : decode (zbyt 76) 97 = .ok (.iload 7, 2) := by decide +kernel
theorem d76_99 : decode (zbyt 76) 99 = .ok (.invokevirtual 69, 3) := by decide +kernel
theorem d76_102 : decode (zbyt 76) 102 = .ok (.ireturn, 1) := by decide +kernel
theorem d76_103 : decode (zbyt 76) 103 = .ok (.aload_n 0, 1) := by decide +kernel
theorem d76_104 : decode (zbyt 76) 104 = .ok (.aload 6, 2) := by decide +kernel
theorem d76_106 : decode (zbyt 76) 106 = .ok (.iload_n 3, 1) := by decide +kernel
theorem d76_107 : decode (zbyt 76) 107 = .ok (.iload 4, 2) := by decide +kernel
theorem d76_109 : decode (zbyt 76) 109 = .ok (.invokevirtual 168, 3) := by decide +kernel
theorem d76_112 : decode (zbyt 76) 112 = .ok (.istore 8, 2) := by decide +kernel
theorem d76_114 : decode (zbyt 76) 114 = .ok (.iload 8, 2) := by decide +kernel
theorem d76_116 : decode (zbyt 76) 116 = .ok (.ifCond .eq 6, 3) := by decide +kernel
theorem d76_119 : decode (zbyt 76) 119 = .ok (.iload 8, 2) := by decide +kernel
theorem d76_121 : decode (zbyt 76) 121 = .ok (.ireturn, 1) := by decide +kernel
theorem d76_122 : decode (zbyt 76) 122 = .ok (.aload_n 0, 1) := by decide +kernel
theorem d76_123 : decode (zbyt 76) 123 = .ok (.aload_n 0, 1) := by decide +kernel
theorem d76_124 : decode (zbyt 76) 124 = .ok (.getfield 24, 3) := by decide +kernel
theorem d76_127 : decode (zbyt 76) 127 = .ok (.aload_n 0, 1) := by decide +kernel
theorem d76_128 : decode (zbyt 76) 128 = .ok (.getfield 12, 3) := by decide +kernel
theorem d76_131 : decode (zbyt 76) 131 = .ok (.aload 6, 2) := by decide +kernel
theorem d76_133 : decode (zbyt 76) 133 = .ok (.iload_n 3, 1) := by decide +kernel
theorem d76_134 : decode (zbyt 76) 134 = .ok (.iload 4, 2) := by decide +kernel
theorem d76_136 : decode (zbyt 76) 136 = .ok (.invokevirtual 172, 3) := by decide +kernel
theorem d76_139 : decode (zbyt 76) 139 = .ok (.iload 5, 2) := by decide +kernel
theorem d76_141 : decode (zbyt 76) 141 = .ok (.invokevirtual 176, 3) := by decide +kernel
theorem d76_144 : decode (zbyt 76) 144 = .ok (.ireturn, 1) := by decide +kernel
theorem d77_0 : decode (zbyt 77) 0 = .ok (.iload_n 0, 1) := by decide +kernel
theorem d77_1 : decode (zbyt 77) 1 = .ok (.ifCond .lt 8, 3) := by decide +kernel
theorem d77_4 : decode (zbyt 77) 4 = .ok (.iload_n 0, 1) := by decide +kernel
theorem d77_5 : decode (zbyt 77) 5 = .ok (.iconst 4, 1) := by decide +kernel
theorem d77_6 : decode (zbyt 77) 6 = .ok (.if_icmp .le 15, 3) := by decide +kernel
theorem d77_9 : decode (zbyt 77) 9 = .ok (.iload_n 0, 1) := by decide +kernel
theorem d77_10 : decode (zbyt 77) 10 = .ok (.bipush 10, 2) := by decide +kernel
theorem d77_12 : decode (zbyt 77) 12 = .ok (.if_icmp .lt 13, 3) := by decide +kernel
theorem d77_15 : decode (zbyt 77) 15 = .ok (.iload_n 0, 1) := by decide +kernel
theorem d77_16 : decode (zbyt 77) 16 = .ok (.bipush 14, 2) := by decide +kernel
theorem d77_18 : decode (zbyt 77) 18 = .ok (.if_icmp .gt 7, 3) := by decide +kernel
theorem d77_21 : decode (zbyt 77) 21 = .ok (.iconst 1, 1) := by decide +kernel
theorem d77_22 : decode (zbyt 77) 22 = .ok (.goto 4, 3) := by decide +kernel
theorem d77_25 : decode (zbyt 77) 25 = .ok (.iconst 0, 1) := by decide +kernel
theorem d77_26 : decode (zbyt 77) 26 = .ok (.ireturn, 1) := by decide +kernel
theorem d78_0 : decode (zbyt 78) 0 = .ok (.iconst 0, 1) := by decide +kernel
theorem d78_1 : decode (zbyt 78) 1 = .ok (.istore 4, 2) := by decide +kernel
theorem d78_3 : decode (zbyt 78) 3 = .ok (.iload 4, 2) := by decide +kernel
theorem d78_5 : decode (zbyt 78) 5 = .ok (.iload_n 3, 1) := by decide +kernel
theorem d78_6 : decode (zbyt 78) 6 = .ok (.if_icmp .ge 45, 3) := by decide +kernel
theorem d78_9 : decode (zbyt 78) 9 = .ok (.aload_n 0, 1) := by decide +kernel
theorem d78_10 : decode (zbyt 78) 10 = .ok (.aload_n 1, 1) := by decide +kernel
theorem d78_11 : decode (zbyt 78) 11 = .ok (.iload_n 2, 1) := by decide +kernel
theorem d78_12 : decode (zbyt 78) 12 = .ok (.iconst 2, 1) := by decide +kernel
theorem d78_13 : decode (zbyt 78) 13 = .ok (.iload 4, 2) := by decide +kernel
theorem d78_15 : decode (zbyt 78) 15 = .ok (.imul, 1) := by decide +kernel
theorem d78_16 : decode (zbyt 78) 16 = .ok (.iadd, 1) := by decide +kernel
theorem d78_17 : decode (zbyt 78) 17 = .ok (.invokevirtual 179, 3) := by decide +kernel
theorem d78_20 : decode (zbyt 78) 20 = .ok (.aload_n 1, 1) := by decide +kernel
theorem d78_21 : decode (zbyt 78) 21 = .ok (.iload_n 2, 1) := by decide +kernel
theorem d78_22 : decode (zbyt 78) 22 = .ok (.iconst 2, 1) := by decide +kernel
theorem d78_23 : decode (zbyt 78) 23 = .ok (.iload 4, 2) := by decide +kernel
theorem d78_25 : decode (zbyt 78) 25 = .ok (.imul, 1) := by decide +kernel
theorem d78_26 : decode (zbyt 78) 26 = .ok (.iadd, 1) := by decide +kernel
theorem d78_27 : decode (zbyt 78) 27 = .ok (.iconst 1, 1) := by decide +kernel
theorem d78_28 : decode (zbyt 78) 28 = .ok (.iadd, 1) := by decide +kernel
theorem d78_29 : decode (zbyt 78) 29 = .ok (.invokevirtual 179, 3) := by decide +kernel
theorem d78_32 : decode (zbyt 78) 32 = .ok (.invokevirtual 182, 3) := by decide +kernel
theorem d78_35 : decode (zbyt 78) 35 = .ok (.istore 5, 2) := by decide +kernel
theorem d78_37 : decode (zbyt 78) 37 = .ok (.iload 5, 2) := by decide +kernel
theorem d78_39 : decode (zbyt 78) 39 = .ok (.ifCond .eq 6, 3) := by decide +kernel
theorem d78_42 : decode (zbyt 78) 42 = .ok (.iload 5, 2) := by decide +kernel
theorem d78_44 : decode (zbyt 78) 44 = .ok (.ireturn, 1) := by decide +kernel
theorem d78_45 : decode (zbyt 78) 45 = .ok (.iinc 4 1, 3) := by decide +kernel
theorem d78_48 : decode (zbyt 78) 48 = .ok (.goto (-45), 3) := by decide +kernel
theorem d78_51 : decode (zbyt 78) 51 = .ok (.iconst 0, 1) := by decide +kernel
theorem d78_52 : decode (zbyt 78) 52 = .ok (.ireturn, 1) := by decide +kernel
theorem d79_0 : decode (zbyt 79) 0 = .ok (.iload_n 2, 1) := by decide +kernel
theorem d79_1 : decode (zbyt 79) 1 = .ok (.ifCond .lt 8, 3) := by decide +kernel
theorem d79_4 : decode (zbyt 79) 4 = .ok (.iload_n 2, 1) := by decide +kernel
theorem d79_5 : decode (zbyt 79) 5 = .ok (.iconst 2, 1) := by decide +kernel
theorem d79_6 : decode (zbyt 79) 6 = .ok (.if_icmp .le 6, 3) := by decide +kernel
theorem d79_9 : decode (zbyt 79) 9 = .ok (.bipush (-2), 2) := by decide +kernel
theorem d79_11 : decode (zbyt 79) 11 = .ok (.ireturn, 1) := by decide +kernel
theorem d79_12 : decode (zbyt 79) 12 = .ok (.iload_n 2, 1) := by decide +kernel
theorem d79_13 : decode (zbyt 79) 13 = .ok (.iconst 2, 1) := by decide +kernel
theorem d79_14 : decode (zbyt 79) 14 = .ok (.if_icmp .ne 20, 3) := by decide +kernel
theorem d79_17 : decode (zbyt 79) 17 = .ok (.iload_n 1, 1) := by decide +kernel
theorem d79_18 : decode (zbyt 79) 18 = .ok (.ifCond .lt 9, 3) := by decide +kernel
theorem d79_21 : decode (zbyt 79) 21 = .ok (.iload_n 1, 1) := by decide +kernel
theorem d79_22 : decode (zbyt 79) 22 = .ok (.bipush 20, 2) := by decide +kernel
theorem d79_24 : decode (zbyt 79) 24 = .ok (.if_icmp .le 8, 3) := by decide +kernel
theorem d79_27 : decode (zbyt 79) 27 = .ok (.bipush (-2), 2) := by decide +kernel
theorem d79_29 : decode (zbyt 79) 29 = .ok (.goto 4, 3) := by decide +kernel
theorem d79_32 : decode (zbyt 79) 32 = .ok (.iconst 0, 1) := by decide +kernel
theorem d79_33 : decode (zbyt 79) 33 = .ok (.ireturn, 1) := by decide +kernel
theorem d79_34 : decode (zbyt 79) 34 = .ok (.aload_n 0, 1) := by decide +kernel
theorem d79_35 : decode (zbyt 79) 35 = .ok (.getfield 12, 3) := by decide +kernel
theorem d79_38 : decode (zbyt 79) 38 = .ok (.iload_n 1, 1) := by decide +kernel
theorem d79_39 : decode (zbyt 79) 39 = .ok (.invokevirtual 95, 3) := by decide +kernel
theorem d79_42 : decode (zbyt 79) 42 = .ok (.ifnonnull 7, 3) := by decide +kernel
theorem d79_45 : decode (zbyt 79) 45 = .ok (.iconst (-1), 1) := by decide +kernel
theorem d79_46 : decode (zbyt 79) 46 = .ok (.goto 4, 3) := by decide +kernel
theorem d79_49 : decode (zbyt 79) 49 = .ok (.iconst 0, 1) := by decide +kernel
theorem d79_50 : decode (zbyt 79) 50 = .ok (.ireturn, 1) := by decide +kernel
theorem d80_0 : decode (zbyt 80) 0 = .ok (.iload_n 2, 1) := by decide +kernel
theorem d80_1 : decode (zbyt 80) 1 = .ok (.iconst 1, 1) := by decide +kernel
theorem d80_2 : decode (zbyt 80) 2 = .ok (.if_icmp .ne 5, 3) := by decide +kernel
theorem d80_5 : decode (zbyt 80) 5 = .ok (.iload_n 1, 1) := by decide +kernel
theorem d80_6 : decode (zbyt 80) 6 = .ok (.ireturn, 1) := by decide +kernel
theorem d80_7 : decode (zbyt 80) 7 = .ok (.iload_n 1, 1) := by decide +kernel
theorem d80_8 : decode (zbyt 80) 8 = .ok (.bipush (-9), 2) := by decide +kernel
theorem d80_10 : decode (zbyt 80) 10 = .ok (.if_icmp .eq 8, 3) := by decide +kernel
theorem d80_13 : decode (zbyt 80) 13 = .ok (.bipush (-100), 2) := by decide +kernel
theorem d80_15 : decode (zbyt 80) 15 = .ok (.iload_n 1, 1) := by decide +kernel
theorem d80_16 : decode (zbyt 80) 16 = .ok (.isub, 1) := by decide +kernel
theorem d80_17 : decode (zbyt 80) 17 = .ok (.ireturn, 1) := by decide +kernel
theorem d80_18 : decode (zbyt 80) 18 = .ok (.iload_n 2, 1) := by decide +kernel
theorem d80_19 : decode (zbyt 80) 19 = .ok (.tableswitch 71 0 4 #[33, 71, 44, 55, 63], 33) := by decide +kernel
theorem d80_52 : decode (zbyt 80) 52 = .ok (.aload_n 0, 1) := by decide +kernel
theorem d80_53 : decode (zbyt 80) 53 = .ok (.getfield 24, 3) := by decide +kernel
theorem d80_56 : decode (zbyt 80) 56 = .ok (.getfield 185, 3) := by decide +kernel
theorem d80_59 : decode (zbyt 80) 59 = .ok (.invokevirtual 188, 3) := by decide +kernel
theorem d80_62 : decode (zbyt 80) 62 = .ok (.ireturn, 1) := by decide +kernel
theorem d80_63 : decode (zbyt 80) 63 = .ok (.aload_n 0, 1) := by decide +kernel
theorem d80_64 : decode (zbyt 80) 64 = .ok (.getfield 24, 3) := by decide +kernel
theorem d80_67 : decode (zbyt 80) 67 = .ok (.getfield 185, 3) := by decide +kernel
theorem d80_70 : decode (zbyt 80) 70 = .ok (.invokevirtual 154, 3) := by decide +kernel
theorem d80_73 : decode (zbyt 80) 73 = .ok (.ireturn, 1) := by decide +kernel
theorem d80_74 : decode (zbyt 80) 74 = .ok (.aload_n 0, 1) := by decide +kernel
theorem d80_75 : decode (zbyt 80) 75 = .ok (.getfield 24, 3) := by decide +kernel
theorem d80_78 : decode (zbyt 80) 78 = .ok (.getfield 191, 3) := by decide +kernel
theorem d80_81 : decode (zbyt 80) 81 = .ok (.ireturn, 1) := by decide +kernel
theorem d80_82 : decode (zbyt 80) 82 = .ok (.aload_n 0, 1) := by decide +kernel
theorem d80_83 : decode (zbyt 80) 83 = .ok (.getfield 24, 3) := by decide +kernel
theorem d80_86 : decode (zbyt 80) 86 = .ok (.getfield 194, 3) := by decide +kernel
theorem d80_89 : decode (zbyt 80) 89 = .ok (.ireturn, 1) := by decide +kernel
theorem d80_90 : decode (zbyt 80) 90 = .ok (.aload_n 0, 1) := by decide +kernel
theorem d80_91 : decode (zbyt 80) 91 = .ok (.iload_n 2, 1) := by decide +kernel
theorem d80_92 : decode (zbyt 80) 92 = .ok (.bipush 10, 2) := by decide +kernel
theorem d80_94 : decode (zbyt 80) 94 = .ok (.isub, 1) := by decide +kernel
theorem d80_95 : decode (zbyt 80) 95 = .ok (.invokevirtual 197, 3) := by decide +kernel
theorem d80_98 : decode (zbyt 80) 98 = .ok (.ireturn, 1) := by decide +kernel
theorem d81_0 : decode (zbyt 81) 0 = .ok (.aload_n 0, 1) := by decide +kernel
theorem d81_1 : decode (zbyt 81) 1 = .ok (.getfield 24, 3) := by decide +kernel
theorem d81_4 : decode (zbyt 81) 4 = .ok (.getfield 185, 3) := by decide +kernel
theorem d81_7 : decode (zbyt 81) 7 = .ok (.iload_n 1, 1) := by decide +kernel
theorem d81_8 : decode (zbyt 81) 8 = .ok (.invokevirtual 95, 3) := by decide +kernel
theorem d81_11 : decode (zbyt 81) 11 = .ok (.astore_n 2, 1) := by decide +kernel
theorem d81_12 : decode (zbyt 81) 12 = .ok (.aload_n 2, 1) := by decide +kernel
theorem d81_13 : decode (zbyt 81) 13 = .ok (.ifnonnull 8, 3) := by decide +kernel
theorem d81_16 : decode (zbyt 81) 16 = .ok (.bipush (-9), 2) := by decide +kernel
theorem d81_18 : decode (zbyt 81) 18 = .ok (.goto 14, 3) := by decide +kernel
theorem d81_21 : decode (zbyt 81) 21 = .ok (.aload_n 0, 1) := by decide +kernel
theorem d81_22 : decode (zbyt 81) 22 = .ok (.getfield 24, 3) := by decide +kernel
theorem d81_25 : decode (zbyt 81) 25 = .ok (.getfield 185, 3) := by decide +kernel
theorem d81_28 : decode (zbyt 81) 28 = .ok (.aload_n 2, 1) := by decide +kernel
theorem d81_29 : decode (zbyt 81) 29 = .ok (.invokevirtual 117, 3) := by decide +kernel
theorem d81_32 : decode (zbyt 81) 32 = .ok (.ireturn, 1) := by decide +kernel
theorem d82_0 : decode (zbyt 82) 0 = .ok (.aload_n 0, 1) := by decide +kernel
theorem d82_1 : decode (zbyt 82) 1 = .ok (.getfield 12, 3) := by decide +kernel
theorem d82_4 : decode (zbyt 82) 4 = .ok (.iload_n 1, 1) := by decide +kernel
theorem d82_5 : decode (zbyt 82) 5 = .ok (.invokevirtual 95, 3) := by decide +kernel
theorem d82_8 : decode (zbyt 82) 8 = .ok (.astore_n 3, 1) := by decide +kernel
theorem d82_9 : decode (zbyt 82) 9 = .ok (.aload_n 3, 1) := by decide +kernel
theorem d82_10 : decode (zbyt 82) 10 = .ok (.ifnull 14, 3) := by decide +kernel
theorem d82_13 : decode (zbyt 82) 13 = .ok (.aload_n 0, 1) := by decide +kernel
theorem d82_14 : decode (zbyt 82) 14 = .ok (.getfield 12, 3) := by decide +kernel
theorem d82_17 : decode (zbyt 82) 17 = .ok (.iload_n 2, 1) := by decide +kernel
theorem d82_18 : decode (zbyt 82) 18 = .ok (.invokevirtual 131, 3) := by decide +kernel
theorem d82_21 : decode (zbyt 82) 21 = .ok (.ifCond .ne 5, 3) := by decide +kernel
theorem d82_24 : decode (zbyt 82) 24 = .ok (.iconst (-1), 1) := by decide +kernel
theorem d82_25 : decode (zbyt 82) 25 = .ok (.ireturn, 1) := by decide +kernel
theorem d82_26 : decode (zbyt 82) 26 = .ok (.aload_n 0, 1) := by decide +kernel
theorem d82_27 : decode (zbyt 82) 27 = .ok (.getfield 12, 3) := by decide +kernel
theorem d82_30 : decode (zbyt 82) 30 = .ok (.aload_n 3, 1) := by decide +kernel
theorem d82_31 : decode (zbyt 82) 31 = .ok (.iload_n 2, 1) := by decide +kernel
theorem d82_32 : decode (zbyt 82) 32 = .ok (.invokevirtual 200, 3) := by decide +kernel
theorem d82_35 : decode (zbyt 82) 35 = .ok (.ireturn, 1) := by decide +kernel
theorem d83_0 : decode (zbyt 83) 0 = .ok (.aload_n 0, 1) := by decide +kernel
theorem d83_1 : decode (zbyt 83) 1 = .ok (.getfield 12, 3) := by decide +kernel
theorem d83_4 : decode (zbyt 83) 4 = .ok (.iload_n 1, 1) := by decide +kernel
theorem d83_5 : decode (zbyt 83) 5 = .ok (.invokevirtual 95, 3) := by decide +kernel
theorem d83_8 : decode (zbyt 83) 8 = .ok (.ifnull 19, 3) := by decide +kernel
theorem d83_11 : decode (zbyt 83) 11 = .ok (.aload_n 0, 1) := by decide +kernel
theorem d83_12 : decode (zbyt 83) 12 = .ok (.getfield 12, 3) := by decide +kernel
theorem d83_15 : decode (zbyt 83) 15 = .ok (.iload_n 2, 1) := by decide +kernel
theorem d83_16 : decode (zbyt 83) 16 = .ok (.invokevirtual 95, 3) := by decide +kernel
theorem d83_19 : decode (zbyt 83) 19 = .ok (.ifnull 8, 3) := by decide +kernel
theorem d83_22 : decode (zbyt 83) 22 = .ok (.iload_n 1, 1) := by decide +kernel
theorem d83_23 : decode (zbyt 83) 23 = .ok (.iload_n 2, 1) := by decide +kernel
theorem d83_24 : decode (zbyt 83) 24 = .ok (.if_icmp .ne 5, 3) := by decide +kernel
theorem d83_27 : decode (zbyt 83) 27 = .ok (.iconst (-1), 1) := by decide +kernel
theorem d83_28 : decode (zbyt 83) 28 = .ok (.ireturn, 1) := by decide +kernel
theorem d83_29 : decode (zbyt 83) 29 = .ok (.aload_n 0, 1) := by decide +kernel
theorem d83_30 : decode (zbyt 83) 30 = .ok (.getfield 18, 3) := by decide +kernel
theorem d83_33 : decode (zbyt 83) 33 = .ok (.aload_n 0, 1) := by decide +kernel
theorem d83_34 : decode (zbyt 83) 34 = .ok (.getfield 12, 3) := by decide +kernel
theorem d83_37 : decode (zbyt 83) 37 = .ok (.invokevirtual 85, 3) := by decide +kernel
theorem d83_40 : decode (zbyt 83) 40 = .ok (.iconst 0, 1) := by decide +kernel
theorem d83_41 : decode (zbyt 83) 41 = .ok (.istore_n 3, 1) := by decide +kernel
theorem d83_42 : decode (zbyt 83) 42 = .ok (.iload_n 3, 1) := by decide +kernel
theorem d83_43 : decode (zbyt 83) 43 = .ok (.bipush 99, 2) := by decide +kernel
theorem d83_45 : decode (zbyt 83) 45 = .ok (.if_icmp .gt 31, 3) := by decide +kernel
theorem d83_48 : decode (zbyt 83) 48 = .ok (.aload_n 0, 1) := by decide +kernel
theorem d83_49 : decode (zbyt 83) 49 = .ok (.getfield 18, 3) := by decide +kernel
theorem d83_52 : decode (zbyt 83) 52 = .ok (.iload_n 1, 1) := by decide +kernel
theorem d83_53 : decode (zbyt 83) 53 = .ok (.iload_n 2, 1) := by decide +kernel
theorem d83_54 : decode (zbyt 83) 54 = .ok (.invokevirtual 204, 3) := by decide +kernel
theorem d83_57 : decode (zbyt 83) 57 = .ok (.ifCond .eq 5, 3) := by decide +kernel
theorem d83_60 : decode (zbyt 83) 60 = .ok (.iload_n 3, 1) := by decide +kernel
theorem d83_61 : decode (zbyt 83) 61 = .ok (.ireturn, 1) := by decide +kernel
theorem d83_62 : decode (zbyt 83) 62 = .ok (.aload_n 0, 1) := by decide +kernel
theorem d83_63 : decode (zbyt 83) 63 = .ok (.getfield 18, 3) := by decide +kernel
theorem d83_66 : decode (zbyt 83) 66 = .ok (.invokevirtual 147, 3) := by decide +kernel
theorem d83_69 : decode (zbyt 83) 69 = .ok (.pop, 1) := by decide +kernel
theorem d83_70 : decode (zbyt 83) 70 = .ok (.iinc 3 1, 3) := by decide +kernel
theorem d83_73 : decode (zbyt 83) 73 = .ok (.goto (-31), 3) := by decide +kernel
theorem d83_76 : decode (zbyt 83) 76 = .ok (.bipush (-9), 2) := by decide +kernel
theorem d83_78 : decode (zbyt 83) 78 = .ok (.ireturn, 1) := by decide +kernel
theorem d84_0 : decode (zbyt 84) 0 = .ok (.aload_n 0, 1) := by decide +kernel
theorem d84_1 : decode (zbyt 84) 1 = .ok (.getfield 12, 3) := by decide +kernel
theorem d84_4 : decode (zbyt 84) 4 = .ok (.iload_n 2, 1) := by decide +kernel
theorem d84_5 : decode (zbyt 84) 5 = .ok (.invokevirtual 95, 3) := by decide +kernel
theorem d84_8 : decode (zbyt 84) 8 = .ok (.astore_n 3, 1) := by decide +kernel
theorem d84_9 : decode (zbyt 84) 9 = .ok (.aload_n 0, 1) := by decide +kernel
theorem d84_10 : decode (zbyt 84) 10 = .ok (.getfield 12, 3) := by decide +kernel
theorem d84_13 : decode (zbyt 84) 13 = .ok (.iload_n 1, 1) := by decide +kernel
theorem d84_14 : decode (zbyt 84) 14 = .ok (.invokevirtual 131, 3) := by decide +kernel
theorem d84_17 : decode (zbyt 84) 17 = .ok (.ifCond .eq 7, 3) := by decide +kernel
theorem d84_20 : decode (zbyt 84) 20 = .ok (.aload_n 3, 1) := by decide +kernel
theorem d84_21 : decode (zbyt 84) 21 = .ok (.ifnonnull 5, 3) := by decide +kernel
theorem d84_24 : decode (zbyt 84) 24 = .ok (.iconst (-1), 1) := by decide +kernel
theorem d84_25 : decode (zbyt 84) 25 = .ok (.ireturn, 1) := by decide +kernel
theorem d84_26 : decode (zbyt 84) 26 = .ok (.aload_n 0, 1) := by decide +kernel
theorem d84_27 : decode (zbyt 84) 27 = .ok (.getfield 12, 3) := by decide +kernel
theorem d84_30 : decode (zbyt 84) 30 = .ok (.iload_n 1, 1) := by decide +kernel
theorem d84_31 : decode (zbyt 84) 31 = .ok (.invokevirtual 207, 3) := by decide +kernel
theorem d84_34 : decode (zbyt 84) 34 = .ok (.istore 4, 2) := by decide +kernel
theorem d84_36 : decode (zbyt 84) 36 = .ok (.iload 4, 2) := by decide +kernel
theorem d84_38 : decode (zbyt 84) 38 = .ok (.bipush (-9), 2) := by decide +kernel
theorem d84_40 : decode (zbyt 84) 40 = .ok (.if_icmp .ne 8, 3) := by decide +kernel
theorem d84_43 : decode (zbyt 84) 43 = .ok (.bipush (-9), 2) := by decide +kernel
theorem d84_45 : decode (zbyt 84) 45 = .ok (.goto 15, 3) := by decide +kernel
theorem d84_48 : decode (zbyt 84) 48 = .ok (.iload 4, 2) := by decide +kernel
theorem d84_50 : decode (zbyt 84) 50 = .ok (.aload_n 0, 1) := by decide +kernel
theorem d84_51 : decode (zbyt 84) 51 = .ok (.getfield 12, 3) := by decide +kernel
theorem d84_54 : decode (zbyt 84) 54 = .ok (.aload_n 3, 1) := by decide +kernel
theorem d84_55 : decode (zbyt 84) 55 = .ok (.iload_n 1, 1) := by decide +kernel
theorem d84_56 : decode (zbyt 84) 56 = .ok (.invokevirtual 200, 3) := by decide +kernel
theorem d84_59 : decode (zbyt 84) 59 = .ok (.isub, 1) := by decide +kernel
theorem d84_60 : decode (zbyt 84) 60 = .ok (.ireturn, 1) := by decide +kernel
theorem d85_0 : decode (zbyt 85) 0 = .ok (.aload_n 0, 1) := by decide +kernel
theorem d85_1 : decode (zbyt 85) 1 = .ok (.getfield 12, 3) := by decide +kernel
theorem d85_4 : decode (zbyt 85) 4 = .ok (.invokevirtual 137, 3) := by decide +kernel
theorem d85_7 : decode (zbyt 85) 7 = .ok (.ifCond .ne 6, 3) := by decide +kernel
theorem d85_10 : decode (zbyt 85) 10 = .ok (.bipush (-3), 2) := by decide +kernel
theorem d85_12 : decode (zbyt 85) 12 = .ok (.ireturn, 1) := by decide +kernel
theorem d85_13 : decode (zbyt 85) 13 = .ok (.iconst 1, 1) := by decide +kernel
theorem d85_14 : decode (zbyt 85) 14 = .ok (.aload_n 0, 1) := by decide +kernel
theorem d85_15 : decode (zbyt 85) 15 = .ok (.getfield 12, 3) := by decide +kernel
theorem d85_18 : decode (zbyt 85) 18 = .ok (.getfield 92, 3) := by decide +kernel
theorem d85_21 : decode (zbyt 85) 21 = .ok (.ishl, 1) := by decide +kernel
theorem d85_22 : decode (zbyt 85) 22 = .ok (.iconst 1, 1) := by decide +kernel
theorem d85_23 : decode (zbyt 85) 23 = .ok (.isub, 1) := by decide +kernel
theorem d85_24 : decode (zbyt 85) 24 = .ok (.istore_n 1, 1) := by decide +kernel
theorem d85_25 : decode (zbyt 85) 25 = .ok (.aload_n 0, 1) := by decide +kernel
theorem d85_26 : decode (zbyt 85) 26 = .ok (.getfield 12, 3) := by decide +kernel
theorem d85_29 : decode (zbyt 85) 29 = .ok (.iload_n 1, 1) := by decide +kernel
theorem d85_30 : decode (zbyt 85) 30 = .ok (.invokevirtual 210, 3) := by decide +kernel
theorem d85_33 : decode (zbyt 85) 33 = .ok (.istore_n 2, 1) := by decide +kernel
theorem d85_34 : decode (zbyt 85) 34 = .ok (.iload_n 1, 1) := by decide +kernel
theorem d85_35 : decode (zbyt 85) 35 = .ok (.istore_n 3, 1) := by decide +kernel
theorem d85_36 : decode (zbyt 85) 36 = .ok (.iconst 0, 1) := by decide +kernel
theorem d85_37 : decode (zbyt 85) 37 = .ok (.istore 4, 2) := by decide +kernel
theorem d85_39 : decode (zbyt 85) 39 = .ok (.iload 4, 2) := by decide +kernel
theorem d85_41 : decode (zbyt 85) 41 = .ok (.iload_n 1, 1) := by decide +kernel
theorem d85_42 : decode (zbyt 85) 42 = .ok (.if_icmp .ge 37, 3) := by decide +kernel
theorem d85_45 : decode (zbyt 85) 45 = .ok (.iload 4, 2) := by decide +kernel
theorem d85_47 : decode (zbyt 85) 47 = .ok (.invokestatic 157, 3) := by decide +kernel
theorem d85_50 : decode (zbyt 85) 50 = .ok (.iload_n 3, 1) := by decide +kernel
theorem d85_51 : decode (zbyt 85) 51 = .ok (.invokestatic 157, 3) := by decide +kernel
theorem d85_54 : decode (zbyt 85) 54 = .ok (.if_icmp .ge 19, 3) := by decide +kernel
theorem d85_57 : decode (zbyt 85) 57 = .ok (.aload_n 0, 1) := by decide +kernel
theorem d85_58 : decode (zbyt 85) 58 = .ok (.getfield 12, 3) := by decide +kernel
theorem d85_61 : decode (zbyt 85) 61 = .ok (.iload 4, 2) := by decide +kernel
theorem d85_63 : decode (zbyt 85) 63 = .ok (.invokevirtual 210, 3) := by decide +kernel
theorem d85_66 : decode (zbyt 85) 66 = .ok (.iload_n 2, 1) := by decide +kernel
theorem d85_67 : decode (zbyt 85) 67 = .ok (.if_icmp .ne 6, 3) := by decide +kernel
theorem d85_70 : decode (zbyt 85) 70 = .ok (.iload 4, 2) := by decide +kernel
theorem d85_72 : decode (zbyt 85) 72 = .ok (.istore_n 3, 1) := by decide +kernel
theorem d85_73 : decode (zbyt 85) 73 = .ok (.iinc 4 1, 3) := by decide +kernel
theorem d85_76 : decode (zbyt 85) 76 = .ok (.goto (-37), 3) := by decide +kernel
theorem d85_79 : decode (zbyt 85) 79 = .ok (.iload_n 3, 1) := by decide +kernel
theorem d85_80 : decode (zbyt 85) 80 = .ok (.ireturn, 1) := by decide +kernel
theorem d86_0 : decode (zbyt 86) 0 = .ok (.aload_n 0, 1) := by decide +kernel
theorem d86_1 : decode (zbyt 86) 1 = .ok (.getfield 12, 3) := by decide +kernel
theorem d86_4 : decode (zbyt 86) 4 = .ok (.invokevirtual 137, 3) := by decide +kernel
theorem d86_7 : decode (zbyt 86) 7 = .ok (.ifCond .ne 6, 3) := by decide +kernel
theorem d86_10 : decode (zbyt 86) 10 = .ok (.bipush (-3), 2) := by decide +kernel
theorem d86_12 : decode (zbyt 86) 12 = .ok (.ireturn, 1) := by decide +kernel
theorem d86_13 : decode (zbyt 86) 13 = .ok (.iload_n 1, 1) := by decide +kernel
theorem d86_14 : decode (zbyt 86) 14 = .ok (.bipush (-2), 2) := by decide +kernel
theorem d86_16 : decode (zbyt 86) 16 = .ok (.if_icmp .lt 8, 3) := by decide +kernel
theorem d86_19 : decode (zbyt 86) 19 = .ok (.iload_n 1, 1) := by decide +kernel
theorem d86_20 : decode (zbyt 86) 20 = .ok (.iconst 5, 1) := by decide +kernel
theorem d86_21 : decode (zbyt 86) 21 = .ok (.if_icmp .lt 6, 3) := by decide +kernel
theorem d86_24 : decode (zbyt 86) 24 = .ok (.bipush (-2), 2) := by decide +kernel
theorem d86_26 : decode (zbyt 86) 26 = .ok (.ireturn, 1) := by decide +kernel
theorem d86_27 : decode (zbyt 86) 27 = .ok (.aload_n 0, 1) := by decide +kernel
theorem d86_28 : decode (zbyt 86) 28 = .ok (.getfield 38, 3) := by decide +kernel
theorem d86_31 : decode (zbyt 86) 31 = .ok (.aload_n 0, 1) := by decide +kernel
theorem d86_32 : decode (zbyt 86) 32 = .ok (.getfield 12, 3) := by decide +kernel
theorem d86_35 : decode (zbyt 86) 35 = .ok (.invokevirtual 213, 3) := by decide +kernel
theorem d86_38 : decode (zbyt 86) 38 = .ok (.iload_n 1, 1) := by decide +kernel
theorem d86_39 : decode (zbyt 86) 39 = .ok (.bipush (-2), 2) := by decide +kernel
theorem d86_41 : decode (zbyt 86) 41 = .ok (.if_icmp .ne 11, 3) := by decide +kernel
theorem d86_44 : decode (zbyt 86) 44 = .ok (.aload_n 0, 1) := by decide +kernel
theorem d86_45 : decode (zbyt 86) 45 = .ok (.getfield 38, 3) := by decide +kernel
theorem d86_48 : decode (zbyt 86) 48 = .ok (.getfield 216, 3) := by decide +kernel
theorem d86_51 : decode (zbyt 86) 51 = .ok (.ireturn, 1) := by decide +kernel
theorem d86_52 : decode (zbyt 86) 52 = .ok (.iload_n 1, 1) := by decide +kernel
theorem d86_53 : decode (zbyt 86) 53 = .ok (.iconst (-1), 1) := by decide +kernel
theorem d86_54 : decode (zbyt 86) 54 = .ok (.if_icmp .ne 13, 3) := by decide +kernel
theorem d86_57 : decode (zbyt 86) 57 = .ok (.aload_n 0, 1) := by decide +kernel
theorem d86_58 : decode (zbyt 86) 58 = .ok (.getfield 38, 3) := by decide +kernel
theorem d86_61 : decode (zbyt 86) 61 = .ok (.getfield 219, 3) := by decide +kernel
theorem d86_64 : decode (zbyt 86) 64 = .ok (.goto 11, 3) := by decide +kernel
theorem d86_67 : decode (zbyt 86) 67 = .ok (.aload_n 0, 1) := by decide +kernel
theorem d86_68 : decode (zbyt 86) 68 = .ok (.getfield 38, 3) := by decide +kernel
theorem d86_71 : decode (zbyt 86) 71 = .ok (.iload_n 1, 1) := by decide +kernel
theorem d86_72 : decode (zbyt 86) 72 = .ok (.invokevirtual 222, 3) := by decide +kernel
theorem d86_75 : decode (zbyt 86) 75 = .ok (.ireturn, 1) := by decide +kernel
theorem d87_0 : decode (zbyt 87) 0 = .ok (.aload_n 0, 1) := by decide +kernel
theorem d87_1 : decode (zbyt 87) 1 = .ok (.getfield 12, 3) := by decide +kernel
theorem d87_4 : decode (zbyt 87) 4 = .ok (.iload_n 1, 1) := by decide +kernel
theorem d87_5 : decode (zbyt 87) 5 = .ok (.invokevirtual 95, 3) := by decide +kernel
theorem d87_8 : decode (zbyt 87) 8 = .ok (.ifnonnull 5, 3) := by decide +kernel
theorem d87_11 : decode (zbyt 87) 11 = .ok (.iconst (-1), 1) := by decide +kernel
theorem d87_12 : decode (zbyt 87) 12 = .ok (.ireturn, 1) := by decide +kernel
theorem d87_13 : decode (zbyt 87) 13 = .ok (.iload_n 2, 1) := by decide +kernel
theorem d87_14 : decode (zbyt 87) 14 = .ok (.ifCond .lt 20, 3) := by decide +kernel
theorem d87_17 : decode (zbyt 87) 17 = .ok (.iload_n 2, 1) := by decide +kernel
theorem d87_18 : decode (zbyt 87) 18 = .ok (.bipush 20, 2) := by decide +kernel
theorem d87_20 : decode (zbyt 87) 20 = .ok (.if_icmp .gt 14, 3) := by decide +kernel
theorem d87_23 : decode (zbyt 87) 23 = .ok (.iload_n 3, 1) := by decide +kernel
theorem d87_24 : decode (zbyt 87) 24 = .ok (.ifCond .lt 10, 3) := by decide +kernel
theorem d87_27 : decode (zbyt 87) 27 = .ok (.iload_n 3, 1) := by decide +kernel
theorem d87_28 : decode (zbyt 87) 28 = .ok (.sipush 400, 3) := by decide +kernel
theorem d87_31 : decode (zbyt 87) 31 = .ok (.if_icmp .le 6, 3) := by decide +kernel
theorem d87_34 : decode (zbyt 87) 34 = .ok (.bipush (-2), 2) := by decide +kernel
theorem d87_36 : decode (zbyt 87) 36 = .ok (.ireturn, 1) := by decide +kernel
theorem d87_37 : decode (zbyt 87) 37 = .ok (.aload_n 0, 1) := by decide +kernel
theorem d87_38 : decode (zbyt 87) 38 = .ok (.getfield 31, 3) := by decide +kernel
theorem d87_41 : decode (zbyt 87) 41 = .ok (.getfield 89, 3) := by decide +kernel
theorem d87_44 : decode (zbyt 87) 44 = .ok (.bipush 8, 2) := by decide +kernel
theorem d87_46 : decode (zbyt 87) 46 = .ok (.if_icmp .lt 6, 3) := by decide +kernel
theorem d87_49 : decode (zbyt 87) 49 = .ok (.bipush (-4), 2) := by decide +kernel
theorem d87_51 : decode (zbyt 87) 51 = .ok (.ireturn, 1) := by decide +kernel
theorem d87_52 : decode (zbyt 87) 52 = .ok (.aload_n 0, 1) := by decide +kernel
theorem d87_53 : decode (zbyt 87) 53 = .ok (.getfield 31, 3) := by decide +kernel
theorem d87_56 : decode (zbyt 87) 56 = .ok (.iload_n 1, 1) := by decide +kernel
theorem d87_57 : decode (zbyt 87) 57 = .ok (.iload_n 2, 1) := by decide +kernel
theorem d87_58 : decode (zbyt 87) 58 = .ok (.iload_n 3, 1) := by decide +kernel
theorem d87_59 : decode (zbyt 87) 59 = .ok (.invokevirtual 225, 3) := by decide +kernel
theorem d87_62 : decode (zbyt 87) 62 = .ok (.aload_n 0, 1) := by decide +kernel
theorem d87_63 : decode (zbyt 87) 63 = .ok (.getfield 31, 3) := by decide +kernel
theorem d87_66 : decode (zbyt 87) 66 = .ok (.getfield 89, 3) := by decide +kernel
theorem d87_69 : decode (zbyt 87) 69 = .ok (.iconst 1, 1) := by decide +kernel
theorem d87_70 : decode (zbyt 87) 70 = .ok (.isub, 1) := by decide +kernel
theorem d87_71 : decode (zbyt 87) 71 = .ok (.ireturn, 1) := by decide +kernel
theorem d88_0 : decode (zbyt 88) 0 = .ok (.iload_n 1, 1) := by decide +kernel
theorem d88_1 : decode (zbyt 88) 1 = .ok (.ifCond .lt 14, 3) := by decide +kernel
theorem d88_4 : decode (zbyt 88) 4 = .ok (.iload_n 1, 1) := by decide +kernel
theorem d88_5 : decode (zbyt 88) 5 = .ok (.aload_n 0, 1) := by decide +kernel
theorem d88_6 : decode (zbyt 88) 6 = .ok (.getfield 31, 3) := by decide +kernel
theorem d88_9 : decode (zbyt 88) 9 = .ok (.getfield 89, 3) := by decide +kernel
theorem d88_12 : decode (zbyt 88) 12 = .ok (.if_icmp .le 6, 3) := by decide +kernel
theorem d88_15 : decode (zbyt 88) 15 = .ok (.bipush (-2), 2) := by decide +kernel
theorem d88_17 : decode (zbyt 88) 17 = .ok (.ireturn, 1) := by decide +kernel
theorem d88_18 : decode (zbyt 88) 18 = .ok (.aload_n 0, 1) := by decide +kernel
theorem d88_19 : decode (zbyt 88) 19 = .ok (.getfield 31, 3) := by decide +kernel
theorem d88_22 : decode (zbyt 88) 22 = .ok (.dup, 1) := by decide +kernel
theorem d88_23 : decode (zbyt 88) 23 = .ok (.getfield 89, 3) := by decide +kernel
theorem d88_26 : decode (zbyt 88) 26 = .ok (.iload_n 1, 1) := by decide +kernel
theorem d88_27 : decode (zbyt 88) 27 = .ok (.isub, 1) := by decide +kernel
theorem d88_28 : decode (zbyt 88) 28 = .ok (.putfield 89, 3) := by decide +kernel
theorem d88_31 : decode (zbyt 88) 31 = .ok (.aload_n 0, 1) := by decide +kernel
theorem d88_32 : decode (zbyt 88) 32 = .ok (.getfield 31, 3) := by decide +kernel
theorem d88_35 : decode (zbyt 88) 35 = .ok (.getfield 89, 3) := by decide +kernel
theorem d88_38 : decode (zbyt 88) 38 = .ok (.ireturn, 1) := by decide +kernel
theorem d89_0 : decode (zbyt 89) 0 = .ok (.aload_n 0, 1) := by decide +kernel
theorem d89_1 : decode (zbyt 89) 1 = .ok (.getfield 12, 3) := by decide +kernel
theorem d89_4 : decode (zbyt 89) 4 = .ok (.iload_n 1, 1) := by decide +kernel
theorem d89_5 : decode (zbyt 89) 5 = .ok (.invokevirtual 95, 3) := by decide +kernel
theorem d89_8 : decode (zbyt 89) 8 = .ok (.astore_n 2, 1) := by decide +kernel
theorem d89_9 : decode (zbyt 89) 9 = .ok (.aload_n 2, 1) := by decide +kernel
theorem d89_10 : decode (zbyt 89) 10 = .ok (.ifnonnull 5, 3) := by decide +kernel
theorem d89_13 : decode (zbyt 89) 13 = .ok (.iconst (-1), 1) := by decide +kernel
theorem d89_14 : decode (zbyt 89) 14 = .ok (.ireturn, 1) := by decide +kernel
theorem d89_15 : decode (zbyt 89) 15 = .ok (.iconst 0, 1) := by decide +kernel
theorem d89_16 : decode (zbyt 89) 16 = .ok (.istore_n 3, 1) := by decide +kernel
theorem d89_17 : decode (zbyt 89) 17 = .ok (.iconst 1, 1) := by decide +kernel
theorem d89_18 : decode (zbyt 89) 18 = .ok (.istore 4, 2) := by decide +kernel
theorem d89_20 : decode (zbyt 89) 20 = .ok (.iload 4, 2) := by decide +kernel
theorem d89_22 : decode (zbyt 89) 22 = .ok (.bipush 9, 2) := by decide +kernel
theorem d89_24 : decode (zbyt 89) 24 = .ok (.if_icmp .gt 44, 3) := by decide +kernel
theorem d89_27 : decode (zbyt 89) 27 = .ok (.aload_n 0, 1) := by decide +kernel
theorem d89_28 : decode (zbyt 89) 28 = .ok (.getfield 31, 3) := by decide +kernel
theorem d89_31 : decode (zbyt 89) 31 = .ok (.aload_n 0, 1) := by decide +kernel
theorem d89_32 : decode (zbyt 89) 32 = .ok (.getfield 12, 3) := by decide +kernel
theorem d89_35 : decode (zbyt 89) 35 = .ok (.iload_n 1, 1) := by decide +kernel
theorem d89_36 : decode (zbyt 89) 36 = .ok (.aload_n 2, 1) := by decide +kernel
theorem d89_37 : decode (zbyt 89) 37 = .ok (.getfield 99, 3) := by decide +kernel
theorem d89_40 : decode (zbyt 89) 40 = .ok (.iload 4, 2) := by decide +kernel
theorem d89_42 : decode (zbyt 89) 42 = .ok (.aload_n 0, 1) := by decide +kernel
theorem d89_43 : decode (zbyt 89) 43 = .ok (.getfield 12, 3) := by decide +kernel
theorem d89_46 : decode (zbyt 89) 46 = .ok (.getfield 144, 3) := by decide +kernel
theorem d89_49 : decode (zbyt 89) 49 = .ok (.invokevirtual 229, 3) := by decide +kernel
theorem d89_52 : decode (zbyt 89) 52 = .ok (.ifCond .eq 10, 3) := by decide +kernel
theorem d89_55 : decode (zbyt 89) 55 = .ok (.iload_n 3, 1) := by decide +kernel
theorem d89_56 : decode (zbyt 89) 56 = .ok (.iconst 1, 1) := by decide +kernel
theorem d89_57 : decode (zbyt 89) 57 = .ok (.iload 4, 2) := by decide +kernel
theorem d89_59 : decode (zbyt 89) 59 = .ok (.ishl, 1) := by decide +kernel
theorem d89_60 : decode (zbyt 89) 60 = .ok (.ior, 1) := by decide +kernel
theorem d89_61 : decode (zbyt 89) 61 = .ok (.istore_n 3, 1) := by decide +kernel
theorem d89_62 : decode (zbyt 89) 62 = .ok (.iinc 4 1, 3) := by decide +kernel
theorem d89_65 : decode (zbyt 89) 65 = .ok (.goto (-45), 3) := by decide +kernel
theorem d89_68 : decode (zbyt 89) 68 = .ok (.iload_n 3, 1) := by decide +kernel
theorem d89_69 : decode (zbyt 89) 69 = .ok (.ireturn, 1) := by decide +kernel
theorem d90_0 : decode (zbyt 90) 0 = .ok (.aload_n 0, 1) := by decide +kernel
theorem d90_1 : decode (zbyt 90) 1 = .ok (.getfield 12, 3) := by decide +kernel
theorem d90_4 : decode (zbyt 90) 4 = .ok (.iload_n 1, 1) := by decide +kernel
theorem d90_5 : decode (zbyt 90) 5 = .ok (.invokevirtual 95, 3) := by decide +kernel
theorem d90_8 : decode (zbyt 90) 8 = .ok (.astore_n 2, 1) := by decide +kernel
theorem d90_9 : decode (zbyt 90) 9 = .ok (.aload_n 2, 1) := by decide +kernel
theorem d90_10 : decode (zbyt 90) 10 = .ok (.ifnonnull 5, 3) := by decide +kernel
theorem d90_13 : decode (zbyt 90) 13 = .ok (.iconst (-1), 1) := by decide +kernel
theorem d90_14 : decode (zbyt 90) 14 = .ok (.ireturn, 1) := by decide +kernel
theorem d90_15 : decode (zbyt 90) 15 = .ok (.iconst 0, 1) := by decide +kernel
theorem d90_16 : decode (zbyt 90) 16 = .ok (.istore_n 3, 1) := by decide +kernel
theorem d90_17 : decode (zbyt 90) 17 = .ok (.iconst 0, 1) := by decide +kernel
theorem d90_18 : decode (zbyt 90) 18 = .ok (.istore 4, 2) := by decide +kernel
theorem d90_20 : decode (zbyt 90) 20 = .ok (.iload 4, 2) := by decide +kernel
theorem d90_22 : decode (zbyt 90) 22 = .ok (.iconst 2, 1) := by decide +kernel
theorem d90_23 : decode (zbyt 90) 23 = .ok (.if_icmp .gt 44, 3) := by decide +kernel
theorem d90_26 : decode (zbyt 90) 26 = .ok (.aload_n 0, 1) := by decide +kernel
theorem d90_27 : decode (zbyt 90) 27 = .ok (.getfield 31, 3) := by decide +kernel
theorem d90_30 : decode (zbyt 90) 30 = .ok (.aload_n 0, 1) := by decide +kernel
theorem d90_31 : decode (zbyt 90) 31 = .ok (.getfield 12, 3) := by decide +kernel
theorem d90_34 : decode (zbyt 90) 34 = .ok (.iload_n 1, 1) := by decide +kernel
theorem d90_35 : decode (zbyt 90) 35 = .ok (.iload 4, 2) := by decide +kernel
theorem d90_37 : decode (zbyt 90) 37 = .ok (.aload_n 2, 1) := by decide +kernel
theorem d90_38 : decode (zbyt 90) 38 = .ok (.getfield 104, 3) := by decide +kernel
theorem d90_41 : decode (zbyt 90) 41 = .ok (.aload_n 0, 1) := by decide +kernel
theorem d90_42 : decode (zbyt 90) 42 = .ok (.getfield 12, 3) := by decide +kernel
theorem d90_45 : decode (zbyt 90) 45 = .ok (.getfield 144, 3) := by decide +kernel
theorem d90_48 : decode (zbyt 90) 48 = .ok (.invokevirtual 229, 3) := by decide +kernel
theorem d90_51 : decode (zbyt 90) 51 = .ok (.ifCond .eq 10, 3) := by decide +kernel
theorem d90_54 : decode (zbyt 90) 54 = .ok (.iload_n 3, 1) := by decide +kernel
theorem d90_55 : decode (zbyt 90) 55 = .ok (.iconst 1, 1) := by decide +kernel
theorem d90_56 : decode (zbyt 90) 56 = .ok (.iload 4, 2) := by decide +kernel
theorem d90_58 : decode (zbyt 90) 58 = .ok (.ishl, 1) := by decide +kernel
theorem d90_59 : decode (zbyt 90) 59 = .ok (.ior, 1) := by decide +kernel
theorem d90_60 : decode (zbyt 90) 60 = .ok (.istore_n 3, 1) := by decide +kernel
theorem d90_61 : decode (zbyt 90) 61 = .ok (.iinc 4 1, 3) := by decide +kernel
theorem d90_64 : decode (zbyt 90) 64 = .ok (.goto (-44), 3) := by decide +kernel
theorem d90_67 : decode (zbyt 90) 67 = .ok (.iload_n 3, 1) := by decide +kernel
theorem d90_68 : decode (zbyt 90) 68 = .ok (.ireturn, 1) := by decide +kernel
theorem d91_0 : decode (zbyt 91) 0 = .ok (.aload_n 0, 1) := by decide +kernel
theorem d91_1 : decode (zbyt 91) 1 = .ok (.getfield 12, 3) := by decide +kernel
theorem d91_4 : decode (zbyt 91) 4 = .ok (.invokevirtual 137, 3) := by decide +kernel
theorem d91_7 : decode (zbyt 91) 7 = .ok (.ifCond .ne 6, 3) := by decide +kernel
theorem d91_10 : decode (zbyt 91) 10 = .ok (.bipush (-3), 2) := by decide +kernel
theorem d91_12 : decode (zbyt 91) 12 = .ok (.ireturn, 1) := by decide +kernel
theorem d91_13 : decode (zbyt 91) 13 = .ok (.iconst 0, 1) := by decide +kernel
theorem d91_14 : decode (zbyt 91) 14 = .ok (.istore_n 1, 1) := by decide +kernel
theorem d91_15 : decode (zbyt 91) 15 = .ok (.iconst 1, 1) := by decide +kernel
theorem d91_16 : decode (zbyt 91) 16 = .ok (.istore_n 2, 1) := by decide +kernel
theorem d91_17 : decode (zbyt 91) 17 = .ok (.iload_n 2, 1) := by decide +kernel
theorem d91_18 : decode (zbyt 91) 18 = .ok (.bipush 9, 2) := by decide +kernel
theorem d91_20 : decode (zbyt 91) 20 = .ok (.if_icmp .gt 34, 3) := by decide +kernel
theorem d91_23 : decode (zbyt 91) 23 = .ok (.aload_n 0, 1) := by decide +kernel
theorem d91_24 : decode (zbyt 91) 24 = .ok (.getfield 31, 3) := by decide +kernel
theorem d91_27 : decode (zbyt 91) 27 = .ok (.aload_n 0, 1) := by decide +kernel
theorem d91_28 : decode (zbyt 91) 28 = .ok (.getfield 12, 3) := by decide +kernel
theorem d91_31 : decode (zbyt 91) 31 = .ok (.bipush (-9), 2) := by decide +kernel
theorem d91_33 : decode (zbyt 91) 33 = .ok (.iconst 0, 1) := by decide +kernel
theorem d91_34 : decode (zbyt 91) 34 = .ok (.iconst 0, 1) := by decide +kernel
theorem d91_35 : decode (zbyt 91) 35 = .ok (.iload_n 2, 1) := by decide +kernel
theorem d91_36 : decode (zbyt 91) 36 = .ok (.invokevirtual 229, 3) := by decide +kernel
theorem d91_39 : decode (zbyt 91) 39 = .ok (.ifCond .eq 9, 3) := by decide +kernel
theorem d91_42 : decode (zbyt 91) 42 = .ok (.iload_n 1, 1) := by decide +kernel
theorem d91_43 : decode (zbyt 91) 43 = .ok (.iconst 1, 1) := by decide +kernel
theorem d91_44 : decode (zbyt 91) 44 = .ok (.iload_n 2, 1) := by decide +kernel
theorem d91_45 : decode (zbyt 91) 45 = .ok (.ishl, 1) := by decide +kernel
theorem d91_46 : decode (zbyt 91) 46 = .ok (.ior, 1) := by decide +kernel
theorem d91_47 : decode (zbyt 91) 47 = .ok (.istore_n 1, 1) := by decide +kernel
theorem d91_48 : decode (zbyt 91) 48 = .ok (.iinc 2 1, 3) := by decide +kernel
theorem d91_51 : decode (zbyt 91) 51 = .ok (.goto (-34), 3) := by decide +kernel
theorem d91_54 : decode (zbyt 91) 54 = .ok (.iload_n 1, 1) := by decide +kernel
theorem d91_55 : decode (zbyt 91) 55 = .ok (.ireturn, 1) := by decide +kernel
theorem d92_0 : decode (zbyt 92) 0 = .ok (.aload_n 0, 1) := by decide +kernel
theorem d92_1 : decode (zbyt 92) 1 = .ok (.getfield 12, 3) := by decide +kernel
theorem d92_4 : decode (zbyt 92) 4 = .ok (.iload_n 1, 1) := by decide +kernel
theorem d92_5 : decode (zbyt 92) 5 = .ok (.invokevirtual 95, 3) := by decide +kernel
theorem d92_8 : decode (zbyt 92) 8 = .ok (.astore 4, 2) := by decide +kernel
theorem d92_10 : decode (zbyt 92) 10 = .ok (.aload 4, 2) := by decide +kernel
theorem d92_12 : decode (zbyt 92) 12 = .ok (.ifnull 23, 3) := by decide +kernel
theorem d92_15 : decode (zbyt 92) 15 = .ok (.aload_n 0, 1) := by decide +kernel
theorem d92_16 : decode (zbyt 92) 16 = .ok (.getfield 12, 3) := by decide +kernel
theorem d92_19 : decode (zbyt 92) 19 = .ok (.iload_n 2, 1) := by decide +kernel
theorem d92_20 : decode (zbyt 92) 20 = .ok (.invokevirtual 131, 3) := by decide +kernel
theorem d92_23 : decode (zbyt 92) 23 = .ok (.ifCond .eq 12, 3) := by decide +kernel
theorem d92_26 : decode (zbyt 92) 26 = .ok (.iload_n 3, 1) := by decide +kernel
theorem d92_27 : decode (zbyt 92) 27 = .ok (.ifCond .lt 8, 3) := by decide +kernel
theorem d92_30 : decode (zbyt 92) 30 = .ok (.iload_n 3, 1) := by decide +kernel
theorem d92_31 : decode (zbyt 92) 31 = .ok (.iconst 1, 1) := by decide +kernel
theorem d92_32 : decode (zbyt 92) 32 = .ok (.if_icmp .le 7, 3) := by decide +kernel
theorem d92_35 : decode (zbyt 92) 35 = .ok (.ldc2_w 233, 3) := by decide +kernel
theorem d92_38 : decode (zbyt 92) 38 = .ok (.lreturn, 1) := by decide +kernel
theorem d92_39 : decode (zbyt 92) 39 = .ok (.aload_n 0, 1) := by decide +kernel
theorem d92_40 : decode (zbyt 92) 40 = .ok (.getfield 12, 3) := by decide +kernel
theorem d92_43 : decode (zbyt 92) 43 = .ok (.aload 4, 2) := by decide +kernel
theorem d92_45 : decode (zbyt 92) 45 = .ok (.iload_n 2, 1) := by decide +kernel
theorem d92_46 : decode (zbyt 92) 46 = .ok (.invokevirtual 235, 3) := by decide +kernel
theorem d92_49 : decode (zbyt 92) 49 = .ok (.istore 5, 2) := by decide +kernel
theorem d92_51 : decode (zbyt 92) 51 = .ok (.aload 4, 2) := by decide +kernel
theorem d92_53 : decode (zbyt 92) 53 = .ok (.getfield 107, 3) := by decide +kernel
theorem d92_56 : decode (zbyt 92) 56 = .ok (.istore 6, 2) := by decide +kernel
theorem d92_58 : decode (zbyt 92) 58 = .ok (.iload_n 3, 1) := by decide +kernel
theorem d92_59 : decode (zbyt 92) 59 = .ok (.ifCond .ne 8, 3) := by decide +kernel
theorem d92_62 : decode (zbyt 92) 62 = .ok (.iload 5, 2) := by decide +kernel
theorem d92_64 : decode (zbyt 92) 64 = .ok (.goto 5, 3) := by decide +kernel
theorem d92_67 : decode (zbyt 92) 67 = .ok (.iload 6, 2) := by decide +kernel
theorem d92_69 : decode (zbyt 92) 69 = .ok (.iload 5, 2) := by decide +kernel
theorem d92_71 : decode (zbyt 92) 71 = .ok (.iload 6, 2) := by decide +kernel
theorem d92_73 : decode (zbyt 92) 73 = .ok (.invokestatic 238, 3) := by decide +kernel
theorem d92_76 : decode (zbyt 92) 76 = .ok (.invokestatic 241, 3) := by decide +kernel
theorem d92_79 : decode (zbyt 92) 79 = .ok (.i2l, 1) := by decide +kernel
theorem d92_80 : decode (zbyt 92) 80 = .ok (.lreturn, 1) := by decide +kernel
theorem d93_0 : decode (zbyt 93) 0 = .ok (.iload_n 1, 1) := by decide +kernel
theorem d93_1 : decode (zbyt 93) 1 = .ok (.istore_n 2, 1) := by decide +kernel
theorem d93_2 : decode (zbyt 93) 2 = .ok (.iload_n 2, 1) := by decide +kernel
theorem d93_3 : decode (zbyt 93) 3 = .ok (.iconst 1, 1) := by decide +kernel
theorem d93_4 : decode (zbyt 93) 4 = .ok (.if_icmp .le 23, 3) := by decide +kernel
theorem d93_7 : decode (zbyt 93) 7 = .ok (.iload_n 0, 1) := by decide +kernel
theorem d93_8 : decode (zbyt 93) 8 = .ok (.iload_n 2, 1) := by decide +kernel
theorem d93_9 : decode (zbyt 93) 9 = .ok (.irem, 1) := by decide +kernel
theorem d93_10 : decode (zbyt 93) 10 = .ok (.ifCond .ne 11, 3) := by decide +kernel
theorem d93_13 : decode (zbyt 93) 13 = .ok (.iload_n 1, 1) := by decide +kernel
theorem d93_14 : decode (zbyt 93) 14 = .ok (.iload_n 2, 1) := by decide +kernel
theorem d93_15 : decode (zbyt 93) 15 = .ok (.irem, 1) := by decide +kernel
theorem d93_16 : decode (zbyt 93) 16 = .ok (.ifCond .ne 5, 3) := by decide +kernel
theorem d93_19 : decode (zbyt 93) 19 = .ok (.iload_n 2, 1) := by decide +kernel
theorem d93_20 : decode (zbyt 93) 20 = .ok (.ireturn, 1) := by decide +kernel
theorem d93_21 : decode (zbyt 93) 21 = .ok (.iinc 2 (-1), 3) := by decide +kernel
theorem d93_24 : decode (zbyt 93) 24 = .ok (.goto (-22), 3) := by decide +kernel
theorem d93_27 : decode (zbyt 93) 27 = .ok (.iconst 1, 1) := by decide +kernel
theorem d93_28 : decode (zbyt 93) 28 = .ok (.ireturn, 1) := by decide +kernel
theorem d94_0 : decode (zbyt 94) 0 = .ok (.aload_n 0, 1) := by decide +kernel
theorem d94_1 : decode (zbyt 94) 1 = .ok (.iconst 0, 1) := by decide +kernel
theorem d94_2 : decode (zbyt 94) 2 = .ok (.putfield 49, 3) := by decide +kernel
theorem d94_5 : decode (zbyt 94) 5 = .ok (.aload_n 0, 1) := by decide +kernel
theorem d94_6 : decode (zbyt 94) 6 = .ok (.iload_n 1, 1) := by decide +kernel
theorem d94_7 : decode (zbyt 94) 7 = .ok (.invokevirtual 53, 3) := by decide +kernel
theorem d94_10 : decode (zbyt 94) 10 = .ok (.astore 4, 2) := by decide +kernel
theorem d94_12 : decode (zbyt 94) 12 = .ok (.aload 4, 2) := by decide +kernel
theorem d94_14 : decode (zbyt 94) 14 = .ok (.ifnonnull 5, 3) := by decide +kernel
theorem d94_17 : decode (zbyt 94) 17 = .ok (.iconst (-1), 1) := by decide +kernel
theorem d94_18 : decode (zbyt 94) 18 = .ok (.ireturn, 1) := by decide +kernel
theorem d94_19 : decode (zbyt 94) 19 = .ok (.iload_n 2, 1) := by decide +kernel
theorem d94_20 : decode (zbyt 94) 20 = .ok (.invokestatic 57, 3) := by decide +kernel
theorem d94_23 : decode (zbyt 94) 23 = .ok (.ifCond .eq 9, 3) := by decide +kernel
theorem d94_26 : decode (zbyt 94) 26 = .ok (.iload_n 3, 1) := by decide +kernel
theorem d94_27 : decode (zbyt 94) 27 = .ok (.bipush 60, 2) := by decide +kernel
theorem d94_29 : decode (zbyt 94) 29 = .ok (.if_icmp .le 6, 3) := by decide +kernel
theorem d94_32 : decode (zbyt 94) 32 = .ok (.bipush (-2), 2) := by decide +kernel
theorem d94_34 : decode (zbyt 94) 34 = .ok (.ireturn, 1) := by decide +kernel
theorem d94_35 : decode (zbyt 94) 35 = .ok (.iload_n 3, 1) := by decide +kernel
theorem d94_36 : decode (zbyt 94) 36 = .ok (.ifCond .ge 9, 3) := by decide +kernel
theorem d94_39 : decode (zbyt 94) 39 = .ok (.aload_n 0, 1) := by decide +kernel
theorem d94_40 : decode (zbyt 94) 40 = .ok (.iconst 4, 1) := by decide +kernel
theorem d94_41 : decode (zbyt 94) 41 = .ok (.invokevirtual 69, 3) := by decide +kernel
theorem d94_44 : decode (zbyt 94) 44 = .ok (.ireturn, 1) := by decide +kernel
theorem d94_45 : decode (zbyt 94) 45 = .ok (.aload 4, 2) := by decide +kernel
theorem d94_47 : decode (zbyt 94) 47 = .ok (.iload_n 2, 1) := by decide +kernel
theorem d94_48 : decode (zbyt 94) 48 = .ok (.iload_n 3, 1) := by decide +kernel
theorem d94_49 : decode (zbyt 94) 49 = .ok (.invokevirtual 244, 3) := by decide +kernel
theorem d94_52 : decode (zbyt 94) 52 = .ok (.iconst 1, 1) := by decide +kernel
theorem d94_53 : decode (zbyt 94) 53 = .ok (.ireturn, 1) := by decide +kernel
theorem d95_0 : decode (zbyt 95) 0 = .ok (.aload_n 0, 1) := by decide +kernel
theorem d95_1 : decode (zbyt 95) 1 = .ok (.iload_n 1, 1) := by decide +kernel
theorem d95_2 : decode (zbyt 95) 2 = .ok (.invokevirtual 53, 3) := by decide +kernel
theorem d95_5 : decode (zbyt 95) 5 = .ok (.astore_n 2, 1) := by decide +kernel
theorem d95_6 : decode (zbyt 95) 6 = .ok (.aload_n 2, 1) := by decide +kernel
theorem d95_7 : decode (zbyt 95) 7 = .ok (.ifnonnull 5, 3) := by decide +kernel
theorem d95_10 : decode (zbyt 95) 10 = .ok (.iconst (-1), 1) := by decide +kernel
theorem d95_11 : decode (zbyt 95) 11 = .ok (.ireturn, 1) := by decide +kernel
theorem d95_12 : decode (zbyt 95) 12 = .ok (.aload_n 2, 1) := by decide +kernel
theorem d95_13 : decode (zbyt 95) 13 = .ok (.invokevirtual 248, 3) := by decide +kernel
theorem d95_16 : decode (zbyt 95) 16 = .ok (.ifCond .eq 5, 3) := by decide +kernel
theorem d95_19 : decode (zbyt 95) 19 = .ok (.iconst 0, 1) := by decide +kernel
theorem d95_20 : decode (zbyt 95) 20 = .ok (.ireturn, 1) := by decide +kernel
theorem d95_21 : decode (zbyt 95) 21 = .ok (.aload_n 2, 1) := by decide +kernel
theorem d95_22 : decode (zbyt 95) 22 = .ok (.invokevirtual 251, 3) := by decide +kernel
theorem d95_25 : decode (zbyt 95) 25 = .ok (.iconst 1, 1) := by decide +kernel
theorem d95_26 : decode (zbyt 95) 26 = .ok (.ireturn, 1) := by decide +kernel
theorem d96_0 : decode (zbyt 96) 0 = .ok (.aload_n 0, 1) := by decide +kernel
theorem d96_1 : decode (zbyt 96) 1 = .ok (.iconst 0, 1) := by decide +kernel
theorem d96_2 : decode (zbyt 96) 2 = .ok (.putfield 49, 3) := by decide +kernel
theorem d96_5 : decode (zbyt 96) 5 = .ok (.aload_n 0, 1) := by decide +kernel
theorem d96_6 : decode (zbyt 96) 6 = .ok (.iload_n 1, 1) := by decide +kernel
theorem d96_7 : decode (zbyt 96) 7 = .ok (.invokevirtual 53, 3) := by decide +kernel
theorem d96_10 : decode (zbyt 96) 10 = .ok (.astore 4, 2) := by decide +kernel
theorem d96_12 : decode (zbyt 96) 12 = .ok (.aload 4, 2) := by decide +kernel
theorem d96_14 : decode (zbyt 96) 14 = .ok (.ifnonnull 5, 3) := by decide +kernel
theorem d96_17 : decode (zbyt 96) 17 = .ok (.iconst (-1), 1) := by decide +kernel
theorem d96_18 : decode (zbyt 96) 18 = .ok (.ireturn, 1) := by decide +kernel
theorem d96_19 : decode (zbyt 96) 19 = .ok (.aload 4, 2) := by decide +kernel
theorem d96_21 : decode (zbyt 96) 21 = .ok (.invokevirtual 248, 3) := by decide +kernel
theorem d96_24 : decode (zbyt 96) 24 = .ok (.ifCond .eq 9, 3) := by decide +kernel
theorem d96_27 : decode (zbyt 96) 27 = .ok (.aload_n 0, 1) := by decide +kernel
theorem d96_28 : decode (zbyt 96) 28 = .ok (.iconst 1, 1) := by decide +kernel
theorem d96_29 : decode (zbyt 96) 29 = .ok (.invokevirtual 69, 3) := by decide +kernel
theorem d96_32 : decode (zbyt 96) 32 = .ok (.ireturn, 1) := by decide +kernel
theorem d96_33 : decode (zbyt 96) 33 = .ok (.aload 4, 2) := by decide +kernel
theorem d96_35 : decode (zbyt 96) 35 = .ok (.iload_n 2, 1) := by decide +kernel
theorem d96_36 : decode (zbyt 96) 36 = .ok (.invokevirtual 254, 3) := by decide +kernel
theorem d96_39 : decode (zbyt 96) 39 = .ok (.ifCond .ne 9, 3) := by decide +kernel
theorem d96_42 : decode (zbyt 96) 42 = .ok (.aload_n 0, 1) := by decide +kernel
theorem d96_43 : decode (zbyt 96) 43 = .ok (.iconst 3, 1) := by decide +kernel
theorem d96_44 : decode (zbyt 96) 44 = .ok (.invokevirtual 69, 3) := by decide +kernel
theorem d96_47 : decode (zbyt 96) 47 = .ok (.ireturn, 1) := by decide +kernel
theorem d96_48 : decode (zbyt 96) 48 = .ok (.aload 4, 2) := by decide +kernel
theorem d96_50 : decode (zbyt 96) 50 = .ok (.iload_n 2, 1) := by decide +kernel
theorem d96_51 : decode (zbyt 96) 51 = .ok (.iload_n 3, 1) := by decide +kernel
theorem d96_52 : decode (zbyt 96) 52 = .ok (.invokevirtual 257, 3) := by decide +kernel
theorem d96_55 : decode (zbyt 96) 55 = .ok (.iconst 1, 1) := by decide +kernel
theorem d96_56 : decode (zbyt 96) 56 = .ok (.ireturn, 1) := by decide +kernel
theorem d97_0 : decode (zbyt 97) 0 = .ok (.aload_n 0, 1) := by decide +kernel
theorem d97_1 : decode (zbyt 97) 1 = .ok (.iconst 0, 1) := by decide +kernel
theorem d97_2 : decode (zbyt 97) 2 = .ok (.putfield 49, 3) := by decide +kernel
theorem d97_5 : decode (zbyt 97) 5 = .ok (.aload_n 0, 1) := by decide +kernel
theorem d97_6 : decode (zbyt 97) 6 = .ok (.iload_n 1, 1) := by decide +kernel
theorem d97_7 : decode (zbyt 97) 7 = .ok (.invokevirtual 53, 3) := by decide +kernel
theorem d97_10 : decode (zbyt 97) 10 = .ok (.astore 4, 2) := by decide +kernel
theorem d97_12 : decode (zbyt 97) 12 = .ok (.aload 4, 2) := by decide +kernel
theorem d97_14 : decode (zbyt 97) 14 = .ok (.ifnull 10, 3) := by decide +kernel
theorem d97_17 : decode (zbyt 97) 17 = .ok (.iload_n 3, 1) := by decide +kernel
theorem d97_18 : decode (zbyt 97) 18 = .ok (.invokestatic 57, 3) := by decide +kernel
theorem d97_21 : decode (zbyt 97) 21 = .ok (.ifCond .ne 7, 3) := by decide +kernel
theorem d97_24 : decode (zbyt 97) 24 = .ok (.ldc2_w 233, 3) := by decide +kernel
theorem d97_27 : decode (zbyt 97) 27 = .ok (.lreturn, 1) := by decide +kernel
theorem d97_28 : decode (zbyt 97) 28 = .ok (.aload_n 0, 1) := by decide +kernel
theorem d97_29 : decode (zbyt 97) 29 = .ok (.aload 4, 2) := by decide +kernel
theorem d97_31 : decode (zbyt 97) 31 = .ok (.iload_n 3, 1) := by decide +kernel
theorem d97_32 : decode (zbyt 97) 32 = .ok (.invokestatic 61, 3) := by decide +kernel
theorem d97_35 : decode (zbyt 97) 35 = .ok (.putfield 49, 3) := by decide +kernel
theorem d97_38 : decode (zbyt 97) 38 = .ok (.aload_n 0, 1) := by decide +kernel
theorem d97_39 : decode (zbyt 97) 39 = .ok (.getfield 49, 3) := by decide +kernel
theorem d97_42 : decode (zbyt 97) 42 = .ok (.ifCond .ne 17, 3) := by decide +kernel
theorem d97_45 : decode (zbyt 97) 45 = .ok (.aload 4, 2) := by decide +kernel
theorem d97_47 : decode (zbyt 97) 47 = .ok (.iload_n 2, 1) := by decide +kernel
theorem d97_48 : decode (zbyt 97) 48 = .ok (.invokevirtual 254, 3) := by decide +kernel
theorem d97_51 : decode (zbyt 97) 51 = .ok (.ifCond .ne 8, 3) := by decide +kernel
theorem d97_54 : decode (zbyt 97) 54 = .ok (.aload_n 0, 1) := by decide +kernel
theorem d97_55 : decode (zbyt 97) 55 = .ok (.iconst 3, 1) := by decide +kernel
theorem d97_56 : decode (zbyt 97) 56 = .ok (.putfield 49, 3) := by decide +kernel
theorem d97_59 : decode (zbyt 97) 59 = .ok (.aload_n 0, 1) := by decide +kernel
theorem d97_60 : decode (zbyt 97) 60 = .ok (.getfield 49, 3) := by decide +kernel
theorem d97_63 : decode (zbyt 97) 63 = .ok (.ifCond .ne 13, 3) := by decide +kernel
theorem d97_66 : decode (zbyt 97) 66 = .ok (.aload 4, 2) := by decide +kernel
theorem d97_68 : decode (zbyt 97) 68 = .ok (.iload_n 2, 1) := by decide +kernel
theorem d97_69 : decode (zbyt 97) 69 = .ok (.invokevirtual 179, 3) := by decide +kernel
theorem d97_72 : decode (zbyt 97) 72 = .ok (.i2l, 1) := by decide +kernel
theorem d97_73 : decode (zbyt 97) 73 = .ok (.goto 6, 3) := by decide +kernel
theorem d97_76 : decode (zbyt 97) 76 = .ok (.ldc2_w 233, 3) := by decide +kernel
theorem d97_79 : decode (zbyt 97) 79 = .ok (.lreturn, 1) := by decide +kernel
theorem d98_0 : decode (zbyt 98) 0 = .ok (.aload_n 0, 1) := by decide +kernel
theorem d98_1 : decode (zbyt 98) 1 = .ok (.iconst 0, 1) := by decide +kernel
theorem d98_2 : decode (zbyt 98) 2 = .ok (.putfield 49, 3) := by decide +kernel
theorem d98_5 : decode (zbyt 98) 5 = .ok (.aload_n 0, 1) := by decide +kernel
theorem d98_6 : decode (zbyt 98) 6 = .ok (.iload_n 1, 1) := by decide +kernel
theorem d98_7 : decode (zbyt 98) 7 = .ok (.invokevirtual 53, 3) := by decide +kernel
theorem d98_10 : decode (zbyt 98) 10 = .ok (.astore 6, 2) := by decide +kernel
theorem d98_12 : decode (zbyt 98) 12 = .ok (.aload_n 0, 1) := by decide +kernel
theorem d98_13 : decode (zbyt 98) 13 = .ok (.iload_n 3, 1) := by decide +kernel
theorem d98_14 : decode (zbyt 98) 14 = .ok (.invokevirtual 53, 3) := by decide +kernel
theorem d98_17 : decode (zbyt 98) 17 = .ok (.astore 7, 2) := by decide +kernel
theorem d98_19 : decode (zbyt 98) 19 = .ok (.aload 6, 2) := by decide +kernel
theorem d98_21 : decode (zbyt 98) 21 = .ok (.ifnull 8, 3) := by decide +kernel
theorem d98_24 : decode (zbyt 98) 24 = .ok (.aload 7, 2) := by decide +kernel
theorem d98_26 : decode (zbyt 98) 26 = .ok (.ifnonnull 5, 3) := by decide +kernel
theorem d98_29 : decode (zbyt 98) 29 = .ok (.iconst (-1), 1) := by decide +kernel
theorem d98_30 : decode (zbyt 98) 30 = .ok (.ireturn, 1) := by decide +kernel
theorem d98_31 : decode (zbyt 98) 31 = .ok (.aload 6, 2) := by decide +kernel
theorem d98_33 : decode (zbyt 98) 33 = .ok (.invokevirtual 248, 3) := by decide +kernel
theorem d98_36 : decode (zbyt 98) 36 = .ok (.ifCond .ne 11, 3) := by decide +kernel
theorem d98_39 : decode (zbyt 98) 39 = .ok (.aload 7, 2) := by decide +kernel
theorem d98_41 : decode (zbyt 98) 41 = .ok (.invokevirtual 248, 3) := by decide +kernel
theorem d98_44 : decode (zbyt 98) 44 = .ok (.ifCond .eq 9, 3) := by decide +kernel
theorem d98_47 : decode (zbyt 98) 47 = .ok (.aload_n 0, 1) := by decide +kernel
theorem d98_48 : decode (zbyt 98) 48 = .ok (.iconst 1, 1) := by decide +kernel
theorem d98_49 : decode (zbyt 98) 49 = .ok (.invokevirtual 69, 3) := by decide +kernel
theorem d98_52 : decode (zbyt 98) 52 = .ok (.ireturn, 1) := by decide +kernel
theorem d98_53 : decode (zbyt 98) 53 = .ok (.aload 6, 2) := by decide +kernel
theorem d98_55 : decode (zbyt 98) 55 = .ok (.getfield 260, 3) := by decide +kernel
theorem d98_58 : decode (zbyt 98) 58 = .ok (.aload 7, 2) := by decide +kernel
theorem d98_60 : decode (zbyt 98) 60 = .ok (.getfield 260, 3) := by decide +kernel
theorem d98_63 : decode (zbyt 98) 63 = .ok (.if_icmp .eq 9, 3) := by decide +kernel
theorem d98_66 : decode (zbyt 98) 66 = .ok (.aload_n 0, 1) := by decide +kernel
theorem d98_67 : decode (zbyt 98) 67 = .ok (.iconst 2, 1) := by decide +kernel
theorem d98_68 : decode (zbyt 98) 68 = .ok (.invokevirtual 69, 3) := by decide +kernel
theorem d98_71 : decode (zbyt 98) 71 = .ok (.ireturn, 1) := by decide +kernel
theorem d98_72 : decode (zbyt 98) 72 = .ok (.aload 6, 2) := by decide +kernel
theorem d98_74 : decode (zbyt 98) 74 = .ok (.iload_n 2, 1) := by decide +kernel
theorem d98_75 : decode (zbyt 98) 75 = .ok (.iload 5, 2) := by decide +kernel
theorem d98_77 : decode (zbyt 98) 77 = .ok (.invokevirtual 65, 3) := by decide +kernel
theorem d98_80 : decode (zbyt 98) 80 = .ok (.ifCond .eq 15, 3) := by decide +kernel
theorem d98_83 : decode (zbyt 98) 83 = .ok (.aload 7, 2) := by decide +kernel
theorem d98_85 : decode (zbyt 98) 85 = .ok (.iload 4, 2) := by decide +kernel
theorem d98_87 : decode (zbyt 98) 87 = .ok (.iload 5, 2) := by decide +kernel
theorem d98_89 : decode (zbyt 98) 89 = .ok (.invokevirtual 65, 3) := by decide +kernel
theorem d98_92 : decode (zbyt 98) 92 = .ok (.ifCond .ne 9, 3) := by decide +kernel
theorem d98_95 : decode (zbyt 98) 95 = .ok (.aload_n 0, 1) := by decide +kernel
theorem d98_96 : decode (zbyt 98) 96 = .ok (.iconst 3, 1) := by decide +kernel
theorem d98_97 : decode (zbyt 98) 97 = .ok (.invokevirtual 69, 3) := by decide +kernel
theorem d98_100 : decode (zbyt 98) 100 = .ok (.ireturn, 1) := by decide +kernel
theorem d98_101 : decode (zbyt 98) 101 = .ok (.aload 7, 2) := by decide +kernel
theorem d98_103 : decode (zbyt 98) 103 = .ok (.iload 4, 2) := by decide +kernel
theorem d98_105 : decode (zbyt 98) 105 = .ok (.aload 6, 2) := by decide +kernel
theorem d98_107 : decode (zbyt 98) 107 = .ok (.iload_n 2, 1) := by decide +kernel
theorem d98_108 : decode (zbyt 98) 108 = .ok (.iload 5, 2) := by decide +kernel
theorem d98_110 : decode (zbyt 98) 110 = .ok (.invokevirtual 263, 3) := by decide +kernel
theorem d98_113 : decode (zbyt 98) 113 = .ok (.iload 5, 2) := by decide +kernel
theorem d98_115 : decode (zbyt 98) 115 = .ok (.ireturn, 1) := by decide +kernel
theorem d99_0 : decode (zbyt 99) 0 = .ok (.aload_n 0, 1) := by decide +kernel
theorem d99_1 : decode (zbyt 99) 1 = .ok (.getfield 12, 3) := by decide +kernel
theorem d99_4 : decode (zbyt 99) 4 = .ok (.iload_n 1, 1) := by decide +kernel
theorem d99_5 : decode (zbyt 99) 5 = .ok (.invokevirtual 95, 3) := by decide +kernel
theorem d99_8 : decode (zbyt 99) 8 = .ok (.astore_n 2, 1) := by decide +kernel
theorem d99_9 : decode (zbyt 99) 9 = .ok (.aload_n 2, 1) := by decide +kernel
theorem d99_10 : decode (zbyt 99) 10 = .ok (.ifnonnull 5, 3) := by decide +kernel
theorem d99_13 : decode (zbyt 99) 13 = .ok (.iconst (-1), 1) := by decide +kernel
theorem d99_14 : decode (zbyt 99) 14 = .ok (.ireturn, 1) := by decide +kernel
theorem d99_15 : decode (zbyt 99) 15 = .ok (.aload_n 2, 1) := by decide +kernel
theorem d99_16 : decode (zbyt 99) 16 = .ok (.getfield 99, 3) := by decide +kernel
theorem d99_19 : decode (zbyt 99) 19 = .ok (.iconst 2, 1) := by decide +kernel
theorem d99_20 : decode (zbyt 99) 20 = .ok (.if_icmp .ne 9, 3) := by decide +kernel
theorem d99_23 : decode (zbyt 99) 23 = .ok (.aload_n 0, 1) := by decide +kernel
theorem d99_24 : decode (zbyt 99) 24 = .ok (.aload_n 2, 1) := by decide +kernel
theorem d99_25 : decode (zbyt 99) 25 = .ok (.invokevirtual 267, 3) := by decide +kernel
theorem d99_28 : decode (zbyt 99) 28 = .ok (.ireturn, 1) := by decide +kernel
theorem d99_29 : decode (zbyt 99) 29 = .ok (.aload_n 2, 1) := by decide +kernel
theorem d99_30 : decode (zbyt 99) 30 = .ok (.getfield 99, 3) := by decide +kernel
theorem d99_33 : decode (zbyt 99) 33 = .ok (.iconst 1, 1) := by decide +kernel
theorem d99_34 : decode (zbyt 99) 34 = .ok (.if_icmp .ne 11, 3) := by decide +kernel
theorem d99_37 : decode (zbyt 99) 37 = .ok (.aload_n 0, 1) := by decide +kernel
theorem d99_38 : decode (zbyt 99) 38 = .ok (.aload_n 2, 1) := by decide +kernel
theorem d99_39 : decode (zbyt 99) 39 = .ok (.invokevirtual 270, 3) := by decide +kernel
theorem d99_42 : decode (zbyt 99) 42 = .ok (.goto 8, 3) := by decide +kernel
theorem d99_45 : decode (zbyt 99) 45 = .ok (.aload_n 0, 1) := by decide +kernel
theorem d99_46 : decode (zbyt 99) 46 = .ok (.aload_n 2, 1) := by decide +kernel
theorem d99_47 : decode (zbyt 99) 47 = .ok (.invokevirtual 273, 3) := by decide +kernel
theorem d99_50 : decode (zbyt 99) 50 = .ok (.ireturn, 1) := by decide +kernel
theorem d100_0 : decode (zbyt 100) 0 = .ok (.aload_n 0, 1) := by decide +kernel
theorem d100_1 : decode (zbyt 100) 1 = .ok (.iconst 1, 1) := by decide +kernel
theorem d100_2 : decode (zbyt 100) 2 = .ok (.invokevirtual 276, 3) := by decide +kernel
theorem d100_5 : decode (zbyt 100) 5 = .ok (.aload_n 1, 1) := by decide +kernel
theorem d100_6 : decode (zbyt 100) 6 = .ok (.getfield 104, 3) := by decide +kernel
theorem d100_9 : decode (zbyt 100) 9 = .ok (.ireturn, 1) := by decide +kernel
theorem d101_0 : decode (zbyt 101) 0 = .ok (.aload_n 0, 1) := by decide +kernel
theorem d101_1 : decode (zbyt 101) 1 = .ok (.iconst 2, 1) := by decide +kernel
theorem d101_2 : decode (zbyt 101) 2 = .ok (.invokevirtual 276, 3) := by decide +kernel
theorem d101_5 : decode (zbyt 101) 5 = .ok (.aload_n 0, 1) := by decide +kernel
theorem d101_6 : decode (zbyt 101) 6 = .ok (.aload_n 1, 1) := by decide +kernel
theorem d101_7 : decode (zbyt 101) 7 = .ok (.invokevirtual 273, 3) := by decide +kernel
theorem d101_10 : decode (zbyt 101) 10 = .ok (.bipush 100, 2) := by decide +kernel
theorem d101_12 : decode (zbyt 101) 12 = .ok (.iadd, 1) := by decide +kernel
theorem d101_13 : decode (zbyt 101) 13 = .ok (.ireturn, 1) := by decide +kernel
theorem d102_0 : decode (zbyt 102) 0 = .ok (.aload_n 0, 1) := by decide +kernel
theorem d102_1 : decode (zbyt 102) 1 = .ok (.iconst 3, 1) := by decide +kernel
theorem d102_2 : decode (zbyt 102) 2 = .ok (.invokevirtual 276, 3) := by decide +kernel
theorem d102_5 : decode (zbyt 102) 5 = .ok (.aload_n 0, 1) := by decide +kernel
theorem d102_6 : decode (zbyt 102) 6 = .ok (.aload_n 1, 1) := by decide +kernel
theorem d102_7 : decode (zbyt 102) 7 = .ok (.invokevirtual 270, 3) := by decide +kernel
theorem d102_10 : decode (zbyt 102) 10 = .ok (.istore_n 2, 1) := by decide +kernel
theorem d102_11 : decode (zbyt 102) 11 = .ok (.iload_n 2, 1) := by decide +kernel
theorem d102_12 : decode (zbyt 102) 12 = .ok (.aload_n 0, 1) := by decide +kernel
theorem d102_13 : decode (zbyt 102) 13 = .ok (.aload_n 1, 1) := by decide +kernel
theorem d102_14 : decode (zbyt 102) 14 = .ok (.invokevirtual 273, 3) := by decide +kernel
theorem d102_17 : decode (zbyt 102) 17 = .ok (.iadd, 1) := by decide +kernel
theorem d102_18 : decode (zbyt 102) 18 = .ok (.ireturn, 1) := by decide +kernel
theorem d103_0 : decode (zbyt 103) 0 = .ok (.aload_n 0, 1) := by decide +kernel
theorem d103_1 : decode (zbyt 103) 1 = .ok (.getfield 12, 3) := by decide +kernel
theorem d103_4 : decode (zbyt 103) 4 = .ok (.iload_n 1, 1) := by decide +kernel
theorem d103_5 : decode (zbyt 103) 5 = .ok (.invokevirtual 95, 3) := by decide +kernel
theorem d103_8 : decode (zbyt 103) 8 = .ok (.astore_n 2, 1) := by decide +kernel
theorem d103_9 : decode (zbyt 103) 9 = .ok (.aload_n 2, 1) := by decide +kernel
theorem d103_10 : decode (zbyt 103) 10 = .ok (.ifnonnull 5, 3) := by decide +kernel
theorem d103_13 : decode (zbyt 103) 13 = .ok (.iconst (-1), 1) := by decide +kernel
theorem d103_14 : decode (zbyt 103) 14 = .ok (.ireturn, 1) := by decide +kernel
theorem d103_15 : decode (zbyt 103) 15 = .ok (.aload_n 2, 1) := by decide +kernel
theorem d103_16 : decode (zbyt 103) 16 = .ok (.getfield 99, 3) := by decide +kernel
theorem d103_19 : decode (zbyt 103) 19 = .ok (.iconst 2, 1) := by decide +kernel
theorem d103_20 : decode (zbyt 103) 20 = .ok (.if_icmp .ne 10, 3) := by decide +kernel
theorem d103_23 : decode (zbyt 103) 23 = .ok (.aload_n 0, 1) := by decide +kernel
theorem d103_24 : decode (zbyt 103) 24 = .ok (.invokevirtual 280, 3) := by decide +kernel
theorem d103_27 : decode (zbyt 103) 27 = .ok (.goto 8, 3) := by decide +kernel
theorem d103_30 : decode (zbyt 103) 30 = .ok (.aload_n 0, 1) := by decide +kernel
theorem d103_31 : decode (zbyt 103) 31 = .ok (.iload_n 1, 1) := by decide +kernel
theorem d103_32 : decode (zbyt 103) 32 = .ok (.invokevirtual 283, 3) := by decide +kernel
theorem d103_35 : decode (zbyt 103) 35 = .ok (.ireturn, 1) := by decide +kernel
theorem d104_0 : decode (zbyt 104) 0 = .ok (.aload_n 0, 1) := by decide +kernel
theorem d104_1 : decode (zbyt 104) 1 = .ok (.iconst 4, 1) := by decide +kernel
theorem d104_2 : decode (zbyt 104) 2 = .ok (.invokevirtual 276, 3) := by decide +kernel
theorem d104_5 : decode (zbyt 104) 5 = .ok (.iload_n 1, 1) := by decide +kernel
theorem d104_6 : decode (zbyt 104) 6 = .ok (.ireturn, 1) := by decide +kernel
theorem d105_0 : decode (zbyt 105) 0 = .ok (.aload_n 0, 1) := by decide +kernel
theorem d105_1 : decode (zbyt 105) 1 = .ok (.iconst 5, 1) := by decide +kernel
theorem d105_2 : decode (zbyt 105) 2 = .ok (.invokevirtual 276, 3) := by decide +kernel
theorem d105_5 : decode (zbyt 105) 5 = .ok (.bipush 80, 2) := by decide +kernel
theorem d105_7 : decode (zbyt 105) 7 = .ok (.ireturn, 1) := by decide +kernel
theorem d106_0 : decode (zbyt 106) 0 = .ok (.aload_n 0, 1) := by decide +kernel
theorem d106_1 : decode (zbyt 106) 1 = .ok (.bipush 31, 2) := by decide +kernel
theorem d106_3 : decode (zbyt 106) 3 = .ok (.aload_n 0, 1) := by decide +kernel
theorem d106_4 : decode (zbyt 106) 4 = .ok (.getfield 286, 3) := by decide +kernel
theorem d106_7 : decode (zbyt 106) 7 = .ok (.imul, 1) := by decide +kernel
theorem d106_8 : decode (zbyt 106) 8 = .ok (.iload_n 1, 1) := by decide +kernel
theorem d106_9 : decode (zbyt 106) 9 = .ok (.iadd, 1) := by decide +kernel
theorem d106_10 : decode (zbyt 106) 10 = .ok (.putfield 286, 3) := by decide +kernel
theorem d106_13 : decode (zbyt 106) 13 = .ok (.return_, 1) := by decide +kernel
theorem d107_0 : decode (zbyt 107) 0 = .ok (.aload_n 0, 1) := by decide +kernel
theorem d107_1 : decode (zbyt 107) 1 = .ok (.iconst 0, 1) := by decide +kernel
theorem d107_2 : decode (zbyt 107) 2 = .ok (.putfield 49, 3) := by decide +kernel
theorem d107_5 : decode (zbyt 107) 5 = .ok (.aload_n 0, 1) := by decide +kernel
theorem d107_6 : decode (zbyt 107) 6 = .ok (.getfield 12, 3) := by decide +kernel
theorem d107_9 : decode (zbyt 107) 9 = .ok (.iload_n 1, 1) := by decide +kernel
theorem d107_10 : decode (zbyt 107) 10 = .ok (.invokevirtual 95, 3) := by decide +kernel
theorem d107_13 : decode (zbyt 107) 13 = .ok (.astore_n 3, 1) := by decide +kernel
theorem d107_14 : decode (zbyt 107) 14 = .ok (.aload_n 3, 1) := by decide +kernel
theorem d107_15 : decode (zbyt 107) 15 = .ok (.ifnonnull 5, 3) := by decide +kernel
theorem d107_18 : decode (zbyt 107) 18 = .ok (.iconst (-1), 1) := by decide +kernel
theorem d107_19 : decode (zbyt 107) 19 = .ok (.ireturn, 1) := by decide +kernel
theorem d107_20 : decode (zbyt 107) 20 = .ok (.iload_n 2, 1) := by decide +kernel
theorem d107_21 : decode (zbyt 107) 21 = .ok (.ifCond .lt 8, 3) := by decide +kernel
theorem d107_24 : decode (zbyt 107) 24 = .ok (.iload_n 2, 1) := by decide +kernel
theorem d107_25 : decode (zbyt 107) 25 = .ok (.iconst 2, 1) := by decide +kernel
theorem d107_26 : decode (zbyt 107) 26 = .ok (.if_icmp .le 6, 3) := by decide +kernel
theorem d107_29 : decode (zbyt 107) 29 = .ok (.bipush (-2), 2) := by decide +kernel
theorem d107_31 : decode (zbyt 107) 31 = .ok (.ireturn, 1) := by decide +kernel
theorem d107_32 : decode (zbyt 107) 32 = .ok (.aload_n 3, 1) := by decide +kernel
theorem d107_33 : decode (zbyt 107) 33 = .ok (.getfield 99, 3) := by decide +kernel
theorem d107_36 : decode (zbyt 107) 36 = .ok (.iload_n 2, 1) := by decide +kernel
theorem d107_37 : decode (zbyt 107) 37 = .ok (.if_icmp .ge 11, 3) := by decide +kernel
theorem d107_40 : decode (zbyt 107) 40 = .ok (.aload_n 0, 1) := by decide +kernel
theorem d107_41 : decode (zbyt 107) 41 = .ok (.iconst 2, 1) := by decide +kernel
theorem d107_42 : decode (zbyt 107) 42 = .ok (.invokevirtual 69, 3) := by decide +kernel
theorem d107_45 : decode (zbyt 107) 45 = .ok (.goto 4, 3) := by decide +kernel
theorem d107_48 : decode (zbyt 107) 48 = .ok (.iconst 1, 1) := by decide +kernel
theorem d107_49 : decode (zbyt 107) 49 = .ok (.ireturn, 1) := by decide +kernel
theorem d108_0 : decode (zbyt 108) 0 = .ok (.aload_n 0, 1) := by decide +kernel
theorem d108_1 : decode (zbyt 108) 1 = .ok (.getfield 286, 3) := by decide +kernel
theorem d108_4 : decode (zbyt 108) 4 = .ok (.ireturn, 1) := by decide +kernel
theorem d109_0 : decode (zbyt 109) 0 = .ok (.aload_n 0, 1) := by decide +kernel
theorem d109_1 : decode (zbyt 109) 1 = .ok (.getfield 49, 3) := by decide +kernel
theorem d109_4 : decode (zbyt 109) 4 = .ok (.ireturn, 1) := by decide +kernel
theorem d110_0 : decode (zbyt 110) 0 = .ok (.iload_n 1, 1) := by decide +kernel
theorem d110_1 : decode (zbyt 110) 1 = .ok (.tableswitch 90 0 5 #[39, 47, 55, 63, 71, 82], 39) := by decide +kernel
theorem d110_40 : decode (zbyt 110) 40 = .ok (.aload_n 0, 1) := by decide +kernel
theorem d110_41 : decode (zbyt 110) 41 = .ok (.getfield 12, 3) := by decide +kernel
theorem d110_44 : decode (zbyt 110) 44 = .ok (.getfield 289, 3) := by decide +kernel
theorem d110_47 : decode (zbyt 110) 47 = .ok (.ireturn, 1) := by decide +kernel
theorem d110_48 : decode (zbyt 110) 48 = .ok (.aload_n 0, 1) := by decide +kernel
theorem d110_49 : decode (zbyt 110) 49 = .ok (.getfield 12, 3) := by decide +kernel
theorem d110_52 : decode (zbyt 110) 52 = .ok (.getfield 92, 3) := by decide +kernel
theorem d110_55 : decode (zbyt 110) 55 = .ok (.ireturn, 1) := by decide +kernel
theorem d110_56 : decode (zbyt 110) 56 = .ok (.aload_n 0, 1) := by decide +kernel
theorem d110_57 : decode (zbyt 110) 57 = .ok (.getfield 12, 3) := by decide +kernel
theorem d110_60 : decode (zbyt 110) 60 = .ok (.getfield 144, 3) := by decide +kernel
theorem d110_63 : decode (zbyt 110) 63 = .ok (.ireturn, 1) := by decide +kernel
theorem d110_64 : decode (zbyt 110) 64 = .ok (.aload_n 0, 1) := by decide +kernel
theorem d110_65 : decode (zbyt 110) 65 = .ok (.getfield 12, 3) := by decide +kernel
theorem d110_68 : decode (zbyt 110) 68 = .ok (.getfield 292, 3) := by decide +kernel
theorem d110_71 : decode (zbyt 110) 71 = .ok (.ireturn, 1) := by decide +kernel
theorem d110_72 : decode (zbyt 110) 72 = .ok (.aload_n 0, 1) := by decide +kernel
theorem d110_73 : decode (zbyt 110) 73 = .ok (.getfield 12, 3) := by decide +kernel
theorem d110_76 : decode (zbyt 110) 76 = .ok (.invokevirtual 154, 3) := by decide +kernel
theorem d110_79 : decode (zbyt 110) 79 = .ok (.invokestatic 157, 3) := by decide +kernel
theorem d110_82 : decode (zbyt 110) 82 = .ok (.ireturn, 1) := by decide +kernel
theorem d110_83 : decode (zbyt 110) 83 = .ok (.aload_n 0, 1) := by decide +kernel
theorem d110_84 : decode (zbyt 110) 84 = .ok (.getfield 31, 3) := by decide +kernel
theorem d110_87 : decode (zbyt 110) 87 = .ok (.getfield 89, 3) := by decide +kernel
theorem d110_90 : decode (zbyt 110) 90 = .ok (.ireturn, 1) := by decide +kernel
theorem d110_91 : decode (zbyt 110) 91 = .ok (.bipush (-2), 2) := by decide +kernel
theorem d110_93 : decode (zbyt 110) 93 = .ok (.ireturn, 1) := by decide +kernel
theorem d111_0 : decode (zbyt 111) 0 = .ok (.iload_n 1, 1) := by decide +kernel
theorem d111_1 : decode (zbyt 111) 1 = .ok (.ifCond .lt 21, 3) := by decide +kernel
theorem d111_4 : decode (zbyt 111) 4 = .ok (.iload_n 1, 1) := by decide +kernel
theorem d111_5 : decode (zbyt 111) 5 = .ok (.aload_n 0, 1) := by decide +kernel
theorem d111_6 : decode (zbyt 111) 6 = .ok (.getfield 44, 3) := by decide +kernel
theorem d111_9 : decode (zbyt 111) 9 = .ok (.arraylength, 1) := by decide +kernel
theorem d111_10 : decode (zbyt 111) 10 = .ok (.if_icmp .ge 12, 3) := by decide +kernel
theorem d111_13 : decode (zbyt 111) 13 = .ok (.aload_n 0, 1) := by decide +kernel
theorem d111_14 : decode (zbyt 111) 14 = .ok (.getfield 44, 3) := by decide +kernel
theorem d111_17 : decode (zbyt 111) 17 = .ok (.iload_n 1, 1) := by decide +kernel
theorem d111_18 : decode (zbyt 111) 18 = .ok (.aaload, 1) := by decide +kernel
theorem d111_19 : decode (zbyt 111) 19 = .ok (.goto 4, 3) := by decide +kernel
theorem d111_22 : decode (zbyt 111) 22 = .ok (.aconst_null, 1) := by decide +kernel
theorem d111_23 : decode (zbyt 111) 23 = .ok (.areturn, 1) := by decide +kernel
theorem d112_0 : decode (zbyt 112) 0 = .ok (.iload_n 0, 1) := by decide +kernel
theorem d112_1 : decode (zbyt 112) 1 = .ok (.ifCond .lt 12, 3) := by decide +kernel
theorem d112_4 : decode (zbyt 112) 4 = .ok (.iload_n 0, 1) := by decide +kernel
theorem d112_5 : decode (zbyt 112) 5 = .ok (.iconst 2, 1) := by decide +kernel
theorem d112_6 : decode (zbyt 112) 6 = .ok (.if_icmp .gt 7, 3) := by decide +kernel
theorem d112_9 : decode (zbyt 112) 9 = .ok (.iconst 1, 1) := by decide +kernel
theorem d112_10 : decode (zbyt 112) 10 = .ok (.goto 4, 3) := by decide +kernel
theorem d112_13 : decode (zbyt 112) 13 = .ok (.iconst 0, 1) := by decide +kernel
theorem d112_14 : decode (zbyt 112) 14 = .ok (.ireturn, 1) := by decide +kernel
theorem d113_0 : decode (zbyt 113) 0 = .ok (.iload_n 0, 1) := by decide +kernel
theorem d113_1 : decode (zbyt 113) 1 = .ok (.iconst 1, 1) := by decide +kernel
theorem d113_2 : decode (zbyt 113) 2 = .ok (.if_icmp .lt 13, 3) := by decide +kernel
theorem d113_5 : decode (zbyt 113) 5 = .ok (.iload_n 0, 1) := by decide +kernel
theorem d113_6 : decode (zbyt 113) 6 = .ok (.bipush 9, 2) := by decide +kernel
theorem d113_8 : decode (zbyt 113) 8 = .ok (.if_icmp .gt 7, 3) := by decide +kernel
theorem d113_11 : decode (zbyt 113) 11 = .ok (.iconst 1, 1) := by decide +kernel
theorem d113_12 : decode (zbyt 113) 12 = .ok (.goto 4, 3) := by decide +kernel
theorem d113_15 : decode (zbyt 113) 15 = .ok (.iconst 0, 1) := by decide +kernel
theorem d113_16 : decode (zbyt 113) 16 = .ok (.ireturn, 1) := by decide +kernel
theorem d114_0 : decode (zbyt 114) 0 = .ok (.aload_n 0, 1) := by decide +kernel
theorem d114_1 : decode (zbyt 114) 1 = .ok (.invokevirtual 248, 3) := by decide +kernel
theorem d114_4 : decode (zbyt 114) 4 = .ok (.ifCond .eq 5, 3) := by decide +kernel
theorem d114_7 : decode (zbyt 114) 7 = .ok (.iconst 1, 1) := by decide +kernel
theorem d114_8 : decode (zbyt 114) 8 = .ok (.ireturn, 1) := by decide +kernel
theorem d114_9 : decode (zbyt 114) 9 = .ok (.aload_n 0, 1) := by decide +kernel
theorem d114_10 : decode (zbyt 114) 10 = .ok (.getfield 260, 3) := by decide +kernel
theorem d114_13 : decode (zbyt 114) 13 = .ok (.iload_n 1, 1) := by decide +kernel
theorem d114_14 : decode (zbyt 114) 14 = .ok (.if_icmp .eq 7, 3) := by decide +kernel
theorem d114_17 : decode (zbyt 114) 17 = .ok (.iconst 2, 1) := by decide +kernel
theorem d114_18 : decode (zbyt 114) 18 = .ok (.goto 4, 3) := by decide +kernel
theorem d114_21 : decode (zbyt 114) 21 = .ok (.iconst 0, 1) := by decide +kernel
theorem d114_22 : decode (zbyt 114) 22 = .ok (.ireturn, 1) := by decide +kernel
theorem d115_0 : decode (zbyt 115) 0 = .ok (.aload_n 0, 1) := by decide +kernel
theorem d115_1 : decode (zbyt 115) 1 = .ok (.iload_n 1, 1) := by decide +kernel
theorem d115_2 : decode (zbyt 115) 2 = .ok (.putfield 49, 3) := by decide +kernel
theorem d115_5 : decode (zbyt 115) 5 = .ok (.bipush (-10), 2) := by decide +kernel
theorem d115_7 : decode (zbyt 115) 7 = .ok (.iload_n 1, 1) := by decide +kernel
theorem d115_8 : decode (zbyt 115) 8 = .ok (.isub, 1) := by decide +kernel
theorem d115_9 : decode (zbyt 115) 9 = .ok (.ireturn, 1) := by decide +kernel
theorem d116_0 : decode (zbyt 116) 0 = .ok (.iload_n 0, 1) := by decide +kernel
theorem d116_1 : decode (zbyt 116) 1 = .ok (.ifCond .ne 5, 3) := by decide +kernel
theorem d116_4 : decode (zbyt 116) 4 = .ok (.iload_n 1, 1) := by decide +kernel
theorem d116_5 : decode (zbyt 116) 5 = .ok (.ireturn, 1) := by decide +kernel
theorem d116_6 : decode (zbyt 116) 6 = .ok (.iload_n 0, 1) := by decide +kernel
theorem d116_7 : decode (zbyt 116) 7 = .ok (.iconst 1, 1) := by decide +kernel
theorem d116_8 : decode (zbyt 116) 8 = .ok (.if_icmp .ne 9, 3) := by decide +kernel
theorem d116_11 : decode (zbyt 116) 11 = .ok (.iload_n 1, 1) := by decide +kernel
theorem d116_12 : decode (zbyt 116) 12 = .ok (.iconst 1, 1) := by decide +kernel
theorem d116_13 : decode (zbyt 116) 13 = .ok (.iadd, 1) := by decide +kernel
theorem d116_14 : decode (zbyt 116) 14 = .ok (.goto 8, 3) := by decide +kernel
theorem d116_17 : decode (zbyt 116) 17 = .ok (.iconst 2, 1) := by decide +kernel
theorem d116_18 : decode (zbyt 116) 18 = .ok (.iload_n 1, 1) := by decide +kernel
theorem d116_19 : decode (zbyt 116) 19 = .ok (.iconst 1, 1) := by decide +kernel
theorem d116_20 : decode (zbyt 116) 20 = .ok (.iadd, 1) := by decide +kernel
theorem d116_21 : decode (zbyt 116) 21 = .ok (.imul, 1) := by decide +kernel
theorem d116_22 : decode (zbyt 116) 22 = .ok (.ireturn, 1) := by decide +kernel
theorem d117_0 : decode (zbyt 117) 0 = .ok (.iload_n 1, 1) := by decide +kernel
theorem d117_1 : decode (zbyt 117) 1 = .ok (.iconst 1, 1) := by decide +kernel
theorem d117_2 : decode (zbyt 117) 2 = .ok (.if_icmp .ge 7, 3) := by decide +kernel
theorem d117_5 : decode (zbyt 117) 5 = .ok (.iconst 0, 1) := by decide +kernel
theorem d117_6 : decode (zbyt 117) 6 = .ok (.goto 6, 3) := by decide +kernel
theorem d117_9 : decode (zbyt 117) 9 = .ok (.iload_n 0, 1) := by decide +kernel
theorem d117_10 : decode (zbyt 117) 10 = .ok (.iload_n 1, 1) := by decide +kernel
theorem d117_11 : decode (zbyt 117) 11 = .ok (.idiv, 1) := by decide +kernel
theorem d117_12 : decode (zbyt 117) 12 = .ok (.ireturn, 1) := by decide +kernel
