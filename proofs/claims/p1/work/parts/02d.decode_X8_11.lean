theorem dX8_init_0 : decode cX8_init 0 = .ok (.aload_n 0, 1) := by decide +kernel
theorem dX8_init_1 : decode cX8_init 1 = .ok (.invokespecial 1, 3) := by decide +kernel
theorem dX8_init_4 : decode cX8_init 4 = .ok (.aload_n 0, 1) := by decide +kernel
theorem dX8_init_5 : decode cX8_init 5 = .ok (.iload_n 1, 1) := by decide +kernel
theorem dX8_init_6 : decode cX8_init 6 = .ok (.putfield 7, 3) := by decide +kernel
theorem dX8_init_9 : decode cX8_init 9 = .ok (.aload_n 0, 1) := by decide +kernel
theorem dX8_init_10 : decode cX8_init 10 = .ok (.iload_n 2, 1) := by decide +kernel
theorem dX8_init_11 : decode cX8_init 11 = .ok (.putfield 13, 3) := by decide +kernel
theorem dX8_init_14 : decode cX8_init 14 = .ok (.aload_n 0, 1) := by decide +kernel
theorem dX8_init_15 : decode cX8_init 15 = .ok (.iload_n 3, 1) := by decide +kernel
theorem dX8_init_16 : decode cX8_init 16 = .ok (.putfield 17, 3) := by decide +kernel
theorem dX8_init_19 : decode cX8_init 19 = .ok (.aload_n 0, 1) := by decide +kernel
theorem dX8_init_20 : decode cX8_init 20 = .ok (.iload 4, 2) := by decide +kernel
theorem dX8_init_22 : decode cX8_init 22 = .ok (.putfield 20, 3) := by decide +kernel
theorem dX8_init_25 : decode cX8_init 25 = .ok (.aload_n 0, 1) := by decide +kernel
theorem dX8_init_26 : decode cX8_init 26 = .ok (.iload 5, 2) := by decide +kernel
theorem dX8_init_28 : decode cX8_init 28 = .ok (.putfield 23, 3) := by decide +kernel
theorem dX8_init_31 : decode cX8_init 31 = .ok (.return_, 1) := by decide +kernel
theorem dX8_isByte_0 : decode cX8_isByte 0 = .ok (.aload_n 0, 1) := by decide +kernel
theorem dX8_isByte_1 : decode cX8_isByte 1 = .ok (.getfield 7, 3) := by decide +kernel
theorem dX8_isByte_4 : decode cX8_isByte 4 = .ok (.bipush 83, 2) := by decide +kernel
theorem dX8_isByte_6 : decode cX8_isByte 6 = .ok (.if_icmp .eq 16, 3) := by decide +kernel
theorem dX8_isByte_9 : decode cX8_isByte 9 = .ok (.aload_n 0, 1) := by decide +kernel
theorem dX8_isByte_10 : decode cX8_isByte 10 = .ok (.getfield 7, 3) := by decide +kernel
theorem dX8_isByte_13 : decode cX8_isByte 13 = .ok (.bipush 69, 2) := by decide +kernel
theorem dX8_isByte_15 : decode cX8_isByte 15 = .ok (.if_icmp .eq 7, 3) := by decide +kernel
theorem dX8_isByte_18 : decode cX8_isByte 18 = .ok (.iconst 1, 1) := by decide +kernel
theorem dX8_isByte_19 : decode cX8_isByte 19 = .ok (.goto 4, 3) := by decide +kernel
theorem dX8_isByte_22 : decode cX8_isByte 22 = .ok (.iconst 0, 1) := by decide +kernel
theorem dX8_isByte_23 : decode cX8_isByte 23 = .ok (.ireturn, 1) := by decide +kernel
theorem dX9_init_0 : decode cX9_init 0 = .ok (.aload_n 0, 1) := by decide +kernel
theorem dX9_init_1 : decode cX9_init 1 = .ok (.aload_n 1, 1) := by decide +kernel
theorem dX9_init_2 : decode cX9_init 2 = .ok (.putfield 3, 3) := by decide +kernel
theorem dX9_init_5 : decode cX9_init 5 = .ok (.aload_n 0, 1) := by decide +kernel
theorem dX9_init_6 : decode cX9_init 6 = .ok (.invokespecial 9, 3) := by decide +kernel
theorem dX9_init_9 : decode cX9_init 9 = .ok (.aload_n 0, 1) := by decide +kernel
theorem dX9_init_10 : decode cX9_init 10 = .ok (.aload_n 0, 1) := by decide +kernel
theorem dX9_init_11 : decode cX9_init 11 = .ok (.getfield 3, 3) := by decide +kernel
theorem dX9_init_14 : decode cX9_init 14 = .ok (.invokevirtual 15, 3) := by decide +kernel
theorem dX9_init_17 : decode cX9_init 17 = .ok (.putfield 19, 3) := by decide +kernel
theorem dX9_init_20 : decode cX9_init 20 = .ok (.aload_n 0, 1) := by decide +kernel
theorem dX9_init_21 : decode cX9_init 21 = .ok (.iconst 4, 1) := by decide +kernel
theorem dX9_init_22 : decode cX9_init 22 = .ok (.newarray .boolean, 2) := by decide +kernel
theorem dX9_init_24 : decode cX9_init 24 = .ok (.putfield 23, 3) := by decide +kernel
theorem dX9_init_27 : decode cX9_init 27 = .ok (.aload_n 0, 1) := by decide +kernel
theorem dX9_init_28 : decode cX9_init 28 = .ok (.iconst 1, 1) := by decide +kernel
theorem dX9_init_29 : decode cX9_init 29 = .ok (.putfield 27, 3) := by decide +kernel
theorem dX9_init_32 : decode cX9_init 32 = .ok (.aload_n 0, 1) := by decide +kernel
theorem dX9_init_33 : decode cX9_init 33 = .ok (.iload_n 2, 1) := by decide +kernel
theorem dX9_init_34 : decode cX9_init 34 = .ok (.putfield 31, 3) := by decide +kernel
theorem dX9_init_37 : decode cX9_init 37 = .ok (.return_, 1) := by decide +kernel
theorem dX9_tells_0 : decode cX9_tells 0 = .ok (.aload_n 0, 1) := by decide +kernel
theorem dX9_tells_1 : decode cX9_tells 1 = .ok (.getfield 23, 3) := by decide +kernel
theorem dX9_tells_4 : decode cX9_tells 4 = .ok (.iload_n 1, 1) := by decide +kernel
theorem dX9_tells_5 : decode cX9_tells 5 = .ok (.baload, 1) := by decide +kernel
theorem dX9_tells_6 : decode cX9_tells 6 = .ok (.iload_n 3, 1) := by decide +kernel
theorem dX9_tells_7 : decode cX9_tells 7 = .ok (.if_icmp .eq 49, 3) := by decide +kernel
theorem dX9_tells_10 : decode cX9_tells 10 = .ok (.aload_n 0, 1) := by decide +kernel
theorem dX9_tells_11 : decode cX9_tells 11 = .ok (.aload_n 0, 1) := by decide +kernel
theorem dX9_tells_12 : decode cX9_tells 12 = .ok (.getfield 19, 3) := by decide +kernel
theorem dX9_tells_15 : decode cX9_tells 15 = .ok (.iload_n 1, 1) := by decide +kernel
theorem dX9_tells_16 : decode cX9_tells 16 = .ok (.aload_n 0, 1) := by decide +kernel
theorem dX9_tells_17 : decode cX9_tells 17 = .ok (.getfield 3, 3) := by decide +kernel
theorem dX9_tells_20 : decode cX9_tells 20 = .ok (.aload_n 0, 1) := by decide +kernel
theorem dX9_tells_21 : decode cX9_tells 21 = .ok (.getfield 31, 3) := by decide +kernel
theorem dX9_tells_24 : decode cX9_tells 24 = .ok (.iload_n 2, 1) := by decide +kernel
theorem dX9_tells_25 : decode cX9_tells 25 = .ok (.invokevirtual 35, 3) := by decide +kernel
theorem dX9_tells_28 : decode cX9_tells 28 = .ok (.invokestatic 39, 3) := by decide +kernel
theorem dX9_tells_31 : decode cX9_tells 31 = .ok (.ifCond .eq 14, 3) := by decide +kernel
theorem dX9_tells_34 : decode cX9_tells 34 = .ok (.aload_n 0, 1) := by decide +kernel
theorem dX9_tells_35 : decode cX9_tells 35 = .ok (.getfield 27, 3) := by decide +kernel
theorem dX9_tells_38 : decode cX9_tells 38 = .ok (.ifCond .eq 7, 3) := by decide +kernel
theorem dX9_tells_41 : decode cX9_tells 41 = .ok (.iconst 1, 1) := by decide +kernel
theorem dX9_tells_42 : decode cX9_tells 42 = .ok (.goto 4, 3) := by decide +kernel
theorem dX9_tells_45 : decode cX9_tells 45 = .ok (.iconst 0, 1) := by decide +kernel
theorem dX9_tells_46 : decode cX9_tells 46 = .ok (.putfield 27, 3) := by decide +kernel
theorem dX9_tells_49 : decode cX9_tells 49 = .ok (.aload_n 0, 1) := by decide +kernel
theorem dX9_tells_50 : decode cX9_tells 50 = .ok (.getfield 23, 3) := by decide +kernel
theorem dX9_tells_53 : decode cX9_tells 53 = .ok (.iload_n 1, 1) := by decide +kernel
theorem dX9_tells_54 : decode cX9_tells 54 = .ok (.iload_n 3, 1) := by decide +kernel
theorem dX9_tells_55 : decode cX9_tells 55 = .ok (.bastore, 1) := by decide +kernel
theorem dX9_tells_56 : decode cX9_tells 56 = .ok (.return_, 1) := by decide +kernel
theorem dX9_ends_0 : decode cX9_ends 0 = .ok (.aload_n 0, 1) := by decide +kernel
theorem dX9_ends_1 : decode cX9_ends 1 = .ok (.getfield 3, 3) := by decide +kernel
theorem dX9_ends_4 : decode cX9_ends 4 = .ok (.aload_n 0, 1) := by decide +kernel
theorem dX9_ends_5 : decode cX9_ends 5 = .ok (.getfield 27, 3) := by decide +kernel
theorem dX9_ends_8 : decode cX9_ends 8 = .ok (.ifCond .eq 17, 3) := by decide +kernel
theorem dX9_ends_11 : decode cX9_ends 11 = .ok (.aload_n 0, 1) := by decide +kernel
theorem dX9_ends_12 : decode cX9_ends 12 = .ok (.getfield 19, 3) := by decide +kernel
theorem dX9_ends_15 : decode cX9_ends 15 = .ok (.invokestatic 43, 3) := by decide +kernel
theorem dX9_ends_18 : decode cX9_ends 18 = .ok (.ifCond .eq 7, 3) := by decide +kernel
theorem dX9_ends_21 : decode cX9_ends 21 = .ok (.iconst 0, 1) := by decide +kernel
theorem dX9_ends_22 : decode cX9_ends 22 = .ok (.goto 4, 3) := by decide +kernel
theorem dX9_ends_25 : decode cX9_ends 25 = .ok (.iconst 3, 1) := by decide +kernel
theorem dX9_ends_26 : decode cX9_ends 26 = .ok (.putfield 47, 3) := by decide +kernel
theorem dX9_ends_29 : decode cX9_ends 29 = .ok (.aload_n 0, 1) := by decide +kernel
theorem dX9_ends_30 : decode cX9_ends 30 = .ok (.getfield 3, 3) := by decide +kernel
theorem dX9_ends_33 : decode cX9_ends 33 = .ok (.getfield 47, 3) := by decide +kernel
theorem dX9_ends_36 : decode cX9_ends 36 = .ok (.ifCond .le 5, 3) := by decide +kernel
theorem dX9_ends_39 : decode cX9_ends 39 = .ok (.iconst 0, 1) := by decide +kernel
theorem dX9_ends_40 : decode cX9_ends 40 = .ok (.ireturn, 1) := by decide +kernel
theorem dX9_ends_41 : decode cX9_ends 41 = .ok (.aload_n 0, 1) := by decide +kernel
theorem dX9_ends_42 : decode cX9_ends 42 = .ok (.getfield 3, 3) := by decide +kernel
theorem dX9_ends_45 : decode cX9_ends 45 = .ok (.aload_n 0, 1) := by decide +kernel
theorem dX9_ends_46 : decode cX9_ends 46 = .ok (.getfield 19, 3) := by decide +kernel
theorem dX9_ends_49 : decode cX9_ends 49 = .ok (.putfield 50, 3) := by decide +kernel
theorem dX9_ends_52 : decode cX9_ends 52 = .ok (.aload_n 0, 1) := by decide +kernel
theorem dX9_ends_53 : decode cX9_ends 53 = .ok (.getfield 3, 3) := by decide +kernel
theorem dX9_ends_56 : decode cX9_ends 56 = .ok (.aload_n 0, 1) := by decide +kernel
theorem dX9_ends_57 : decode cX9_ends 57 = .ok (.getfield 31, 3) := by decide +kernel
theorem dX9_ends_60 : decode cX9_ends 60 = .ok (.iload_n 1, 1) := by decide +kernel
theorem dX9_ends_61 : decode cX9_ends 61 = .ok (.invokevirtual 35, 3) := by decide +kernel
theorem dX9_ends_64 : decode cX9_ends 64 = .ok (.ireturn, 1) := by decide +kernel
theorem dX10_init_0 : decode cX10_init 0 = .ok (.aload_n 0, 1) := by decide +kernel
theorem dX10_init_1 : decode cX10_init 1 = .ok (.invokespecial 1, 3) := by decide +kernel
theorem dX10_init_4 : decode cX10_init 4 = .ok (.aload_n 0, 1) := by decide +kernel
theorem dX10_init_5 : decode cX10_init 5 = .ok (.iload_n 1, 1) := by decide +kernel
theorem dX10_init_6 : decode cX10_init 6 = .ok (.putfield 7, 3) := by decide +kernel
theorem dX10_init_9 : decode cX10_init 9 = .ok (.aload_n 0, 1) := by decide +kernel
theorem dX10_init_10 : decode cX10_init 10 = .ok (.iload_n 2, 1) := by decide +kernel
theorem dX10_init_11 : decode cX10_init 11 = .ok (.putfield 13, 3) := by decide +kernel
theorem dX10_init_14 : decode cX10_init 14 = .ok (.aload_n 0, 1) := by decide +kernel
theorem dX10_init_15 : decode cX10_init 15 = .ok (.iload_n 3, 1) := by decide +kernel
theorem dX10_init_16 : decode cX10_init 16 = .ok (.putfield 17, 3) := by decide +kernel
theorem dX10_init_19 : decode cX10_init 19 = .ok (.return_, 1) := by decide +kernel
theorem dX11_in_0 : decode cX11_in 0 = .ok (.lload_n 0, 1) := by decide +kernel
theorem dX11_in_1 : decode cX11_in 1 = .ok (.lload_n 2, 1) := by decide +kernel
theorem dX11_in_2 : decode cX11_in 2 = .ok (.lcmp, 1) := by decide +kernel
theorem dX11_in_3 : decode cX11_in 3 = .ok (.ifCond .lt 14, 3) := by decide +kernel
theorem dX11_in_6 : decode cX11_in 6 = .ok (.lload_n 0, 1) := by decide +kernel
theorem dX11_in_7 : decode cX11_in 7 = .ok (.lload 4, 2) := by decide +kernel
theorem dX11_in_9 : decode cX11_in 9 = .ok (.lcmp, 1) := by decide +kernel
theorem dX11_in_10 : decode cX11_in 10 = .ok (.ifCond .gt 7, 3) := by decide +kernel
theorem dX11_in_13 : decode cX11_in 13 = .ok (.iconst 1, 1) := by decide +kernel
theorem dX11_in_14 : decode cX11_in 14 = .ok (.goto 4, 3) := by decide +kernel
theorem dX11_in_17 : decode cX11_in 17 = .ok (.iconst 0, 1) := by decide +kernel
theorem dX11_in_18 : decode cX11_in 18 = .ok (.ireturn, 1) := by decide +kernel
theorem dX11_init_0 : decode cX11_init 0 = .ok (.aload_n 0, 1) := by decide +kernel
theorem dX11_init_1 : decode cX11_init 1 = .ok (.invokespecial 1, 3) := by decide +kernel
theorem dX11_init_4 : decode cX11_init 4 = .ok (.aload_n 0, 1) := by decide +kernel
theorem dX11_init_5 : decode cX11_init 5 = .ok (.iconst 4, 1) := by decide +kernel
theorem dX11_init_6 : decode cX11_init 6 = .ok (.newarray .boolean, 2) := by decide +kernel
theorem dX11_init_8 : decode cX11_init 8 = .ok (.putfield 9, 3) := by decide +kernel
theorem dX11_init_11 : decode cX11_init 11 = .ok (.aload_n 0, 1) := by decide +kernel
theorem dX11_init_12 : decode cX11_init 12 = .ok (.iconst 4, 1) := by decide +kernel
theorem dX11_init_13 : decode cX11_init 13 = .ok (.sipush 10000, 3) := by decide +kernel
theorem dX11_init_16 : decode cX11_init 16 = .ok (.multianewarray 13 2, 4) := by decide +kernel
theorem dX11_init_20 : decode cX11_init 20 = .ok (.putfield 15, 3) := by decide +kernel
theorem dX11_init_23 : decode cX11_init 23 = .ok (.aload_n 0, 1) := by decide +kernel
theorem dX11_init_24 : decode cX11_init 24 = .ok (.iconst 1, 1) := by decide +kernel
theorem dX11_init_25 : decode cX11_init 25 = .ok (.putfield 18, 3) := by decide +kernel
theorem dX11_init_28 : decode cX11_init 28 = .ok (.aload_n 0, 1) := by decide +kernel
theorem dX11_init_29 : decode cX11_init 29 = .ok (.iconst 1, 1) := by decide +kernel
theorem dX11_init_30 : decode cX11_init 30 = .ok (.putfield 22, 3) := by decide +kernel
theorem dX11_init_33 : decode cX11_init 33 = .ok (.aload_n 0, 1) := by decide +kernel
theorem dX11_init_34 : decode cX11_init 34 = .ok (.iconst 2, 1) := by decide +kernel
theorem dX11_init_35 : decode cX11_init 35 = .ok (.iconst 0, 1) := by decide +kernel
theorem dX11_init_36 : decode cX11_init 36 = .ok (.multianewarray 25 2, 4) := by decide +kernel
theorem dX11_init_40 : decode cX11_init 40 = .ok (.putfield 27, 3) := by decide +kernel
theorem dX11_init_43 : decode cX11_init 43 = .ok (.aload_n 0, 1) := by decide +kernel
theorem dX11_init_44 : decode cX11_init 44 = .ok (.new 30, 3) := by decide +kernel
theorem dX11_init_47 : decode cX11_init 47 = .ok (.dup, 1) := by decide +kernel
theorem dX11_init_48 : decode cX11_init 48 = .ok (.invokespecial 32, 3) := by decide +kernel
theorem dX11_init_51 : decode cX11_init 51 = .ok (.putfield 33, 3) := by decide +kernel
theorem dX11_init_54 : decode cX11_init 54 = .ok (.aload_n 0, 1) := by decide +kernel
theorem dX11_init_55 : decode cX11_init 55 = .ok (.new 30, 3) := by decide +kernel
theorem dX11_init_58 : decode cX11_init 58 = .ok (.dup, 1) := by decide +kernel
theorem dX11_init_59 : decode cX11_init 59 = .ok (.invokespecial 32, 3) := by decide +kernel
theorem dX11_init_62 : decode cX11_init 62 = .ok (.putfield 37, 3) := by decide +kernel
theorem dX11_init_65 : decode cX11_init 65 = .ok (.aload_n 0, 1) := by decide +kernel
theorem dX11_init_66 : decode cX11_init 66 = .ok (.sipush 128, 3) := by decide +kernel
theorem dX11_init_69 : decode cX11_init 69 = .ok (.bipush 16, 2) := by decide +kernel
theorem dX11_init_71 : decode cX11_init 71 = .ok (.multianewarray 25 2, 4) := by decide +kernel
theorem dX11_init_75 : decode cX11_init 75 = .ok (.putfield 40, 3) := by decide +kernel
theorem dX11_init_78 : decode cX11_init 78 = .ok (.aload_n 0, 1) := by decide +kernel
theorem dX11_init_79 : decode cX11_init 79 = .ok (.iconst 0, 1) := by decide +kernel
theorem dX11_init_80 : decode cX11_init 80 = .ok (.putfield 43, 3) := by decide +kernel
theorem dX11_init_83 : decode cX11_init 83 = .ok (.return_, 1) := by decide +kernel
theorem dX11_thrown_0 : decode cX11_thrown 0 = .ok (.aload_n 0, 1) := by decide +kernel
theorem dX11_thrown_1 : decode cX11_thrown 1 = .ok (.getfield 43, 3) := by decide +kernel
theorem dX11_thrown_4 : decode cX11_thrown 4 = .ok (.ireturn, 1) := by decide +kernel
theorem dX11_isWire_0 : decode cX11_isWire 0 = .ok (.iload_n 0, 1) := by decide +kernel
theorem dX11_isWire_1 : decode cX11_isWire 1 = .ok (.i2l, 1) := by decide +kernel
theorem dX11_isWire_2 : decode cX11_isWire 2 = .ok (.lconst 0, 1) := by decide +kernel
theorem dX11_isWire_3 : decode cX11_isWire 3 = .ok (.ldc2_w 47, 3) := by decide +kernel
theorem dX11_isWire_6 : decode cX11_isWire 6 = .ok (.invokestatic 49, 3) := by decide +kernel
theorem dX11_isWire_9 : decode cX11_isWire 9 = .ok (.ireturn, 1) := by decide +kernel
theorem dX11_noWire_0 : decode cX11_noWire 0 = .ok (.aload_n 0, 1) := by decide +kernel
theorem dX11_noWire_1 : decode cX11_noWire 1 = .ok (.iload_n 1, 1) := by decide +kernel
theorem dX11_noWire_2 : decode cX11_noWire 2 = .ok (.invokestatic 53, 3) := by decide +kernel
theorem dX11_noWire_5 : decode cX11_noWire 5 = .ok (.ifCond .eq 7, 3) := by decide +kernel
theorem dX11_noWire_8 : decode cX11_noWire 8 = .ok (.iconst 0, 1) := by decide +kernel
theorem dX11_noWire_9 : decode cX11_noWire 9 = .ok (.goto 4, 3) := by decide +kernel
theorem dX11_noWire_12 : decode cX11_noWire 12 = .ok (.iconst 1, 1) := by decide +kernel
theorem dX11_noWire_13 : decode cX11_noWire 13 = .ok (.putfield 43, 3) := by decide +kernel
theorem dX11_noWire_16 : decode cX11_noWire 16 = .ok (.aload_n 0, 1) := by decide +kernel
theorem dX11_noWire_17 : decode cX11_noWire 17 = .ok (.getfield 43, 3) := by decide +kernel
theorem dX11_noWire_20 : decode cX11_noWire 20 = .ok (.ifCond .le 7, 3) := by decide +kernel
theorem dX11_noWire_23 : decode cX11_noWire 23 = .ok (.iconst 1, 1) := by decide +kernel
theorem dX11_noWire_24 : decode cX11_noWire 24 = .ok (.goto 4, 3) := by decide +kernel
theorem dX11_noWire_27 : decode cX11_noWire 27 = .ok (.iconst 0, 1) := by decide +kernel
theorem dX11_noWire_28 : decode cX11_noWire 28 = .ok (.ireturn, 1) := by decide +kernel
theorem dX11_many_0 : decode cX11_many 0 = .ok (.iconst 0, 1) := by decide +kernel
theorem dX11_many_1 : decode cX11_many 1 = .ok (.istore_n 2, 1) := by decide +kernel
theorem dX11_many_2 : decode cX11_many 2 = .ok (.aload_n 0, 1) := by decide +kernel
theorem dX11_many_3 : decode cX11_many 3 = .ok (.getfield 15, 3) := by decide +kernel
theorem dX11_many_6 : decode cX11_many 6 = .ok (.iload_n 1, 1) := by decide +kernel
theorem dX11_many_7 : decode cX11_many 7 = .ok (.aaload, 1) := by decide +kernel
theorem dX11_many_8 : decode cX11_many 8 = .ok (.astore_n 3, 1) := by decide +kernel
theorem dX11_many_9 : decode cX11_many 9 = .ok (.aload_n 3, 1) := by decide +kernel
theorem dX11_many_10 : decode cX11_many 10 = .ok (.arraylength, 1) := by decide +kernel
theorem dX11_many_11 : decode cX11_many 11 = .ok (.istore 4, 2) := by decide +kernel
theorem dX11_many_13 : decode cX11_many 13 = .ok (.iconst 0, 1) := by decide +kernel
theorem dX11_many_14 : decode cX11_many 14 = .ok (.istore 5, 2) := by decide +kernel
theorem dX11_many_16 : decode cX11_many 16 = .ok (.iload 5, 2) := by decide +kernel
theorem dX11_many_18 : decode cX11_many 18 = .ok (.iload 4, 2) := by decide +kernel
theorem dX11_many_20 : decode cX11_many 20 = .ok (.if_icmp .ge 28, 3) := by decide +kernel
theorem dX11_many_23 : decode cX11_many 23 = .ok (.aload_n 3, 1) := by decide +kernel
theorem dX11_many_24 : decode cX11_many 24 = .ok (.iload 5, 2) := by decide +kernel
theorem dX11_many_26 : decode cX11_many 26 = .ok (.baload, 1) := by decide +kernel
theorem dX11_many_27 : decode cX11_many 27 = .ok (.istore 6, 2) := by decide +kernel
theorem dX11_many_29 : decode cX11_many 29 = .ok (.iload_n 2, 1) := by decide +kernel
theorem dX11_many_30 : decode cX11_many 30 = .ok (.iload 6, 2) := by decide +kernel
theorem dX11_many_32 : decode cX11_many 32 = .ok (.ifCond .eq 7, 3) := by decide +kernel
theorem dX11_many_35 : decode cX11_many 35 = .ok (.iconst 1, 1) := by decide +kernel
theorem dX11_many_36 : decode cX11_many 36 = .ok (.goto 4, 3) := by decide +kernel
theorem dX11_many_39 : decode cX11_many 39 = .ok (.iconst 0, 1) := by decide +kernel
theorem dX11_many_40 : decode cX11_many 40 = .ok (.iadd, 1) := by decide +kernel
theorem dX11_many_41 : decode cX11_many 41 = .ok (.istore_n 2, 1) := by decide +kernel
theorem dX11_many_42 : decode cX11_many 42 = .ok (.iinc 5 1, 3) := by decide +kernel
theorem dX11_many_45 : decode cX11_many 45 = .ok (.goto (-29), 3) := by decide +kernel
theorem dX11_many_48 : decode cX11_many 48 = .ok (.iload_n 2, 1) := by decide +kernel
theorem dX11_many_49 : decode cX11_many 49 = .ok (.ireturn, 1) := by decide +kernel
theorem dX11_idle_0 : decode cX11_idle 0 = .ok (.aload_n 0, 1) := by decide +kernel
theorem dX11_idle_1 : decode cX11_idle 1 = .ok (.iload_n 1, 1) := by decide +kernel
theorem dX11_idle_2 : decode cX11_idle 2 = .ok (.invokevirtual 57, 3) := by decide +kernel
theorem dX11_idle_5 : decode cX11_idle 5 = .ok (.ifCond .eq 5, 3) := by decide +kernel
theorem dX11_idle_8 : decode cX11_idle 8 = .ok (.iconst 0, 1) := by decide +kernel
theorem dX11_idle_9 : decode cX11_idle 9 = .ok (.ireturn, 1) := by decide +kernel
theorem dX11_idle_10 : decode cX11_idle 10 = .ok (.aload_n 0, 1) := by decide +kernel
theorem dX11_idle_11 : decode cX11_idle 11 = .ok (.getfield 9, 3) := by decide +kernel
theorem dX11_idle_14 : decode cX11_idle 14 = .ok (.iload_n 1, 1) := by decide +kernel
theorem dX11_idle_15 : decode cX11_idle 15 = .ok (.baload, 1) := by decide +kernel
theorem dX11_idle_16 : decode cX11_idle 16 = .ok (.istore_n 3, 1) := by decide +kernel
theorem dX11_idle_17 : decode cX11_idle 17 = .ok (.aload_n 0, 1) := by decide +kernel
theorem dX11_idle_18 : decode cX11_idle 18 = .ok (.getfield 9, 3) := by decide +kernel
theorem dX11_idle_21 : decode cX11_idle 21 = .ok (.iload_n 1, 1) := by decide +kernel
theorem dX11_idle_22 : decode cX11_idle 22 = .ok (.iload_n 2, 1) := by decide +kernel
theorem dX11_idle_23 : decode cX11_idle 23 = .ok (.bastore, 1) := by decide +kernel
theorem dX11_idle_24 : decode cX11_idle 24 = .ok (.iload_n 3, 1) := by decide +kernel
theorem dX11_idle_25 : decode cX11_idle 25 = .ok (.ireturn, 1) := by decide +kernel
theorem dX11_flip_0 : decode cX11_flip 0 = .ok (.aload_n 0, 1) := by decide +kernel
theorem dX11_flip_1 : decode cX11_flip 1 = .ok (.iload_n 1, 1) := by decide +kernel
theorem dX11_flip_2 : decode cX11_flip 2 = .ok (.invokevirtual 57, 3) := by decide +kernel
theorem dX11_flip_5 : decode cX11_flip 5 = .ok (.ifCond .eq 5, 3) := by decide +kernel
theorem dX11_flip_8 : decode cX11_flip 8 = .ok (.iconst 0, 1) := by decide +kernel
theorem dX11_flip_9 : decode cX11_flip 9 = .ok (.ireturn, 1) := by decide +kernel
theorem dX11_flip_10 : decode cX11_flip 10 = .ok (.aload_n 0, 1) := by decide +kernel
theorem dX11_flip_11 : decode cX11_flip 11 = .ok (.iload_n 2, 1) := by decide +kernel
theorem dX11_flip_12 : decode cX11_flip 12 = .ok (.i2l, 1) := by decide +kernel
theorem dX11_flip_13 : decode cX11_flip 13 = .ok (.lconst 0, 1) := by decide +kernel
theorem dX11_flip_14 : decode cX11_flip 14 = .ok (.ldc2_w 60, 3) := by decide +kernel
theorem dX11_flip_17 : decode cX11_flip 17 = .ok (.invokestatic 49, 3) := by decide +kernel
theorem dX11_flip_20 : decode cX11_flip 20 = .ok (.ifCond .ne 7, 3) := by decide +kernel
theorem dX11_flip_23 : decode cX11_flip 23 = .ok (.iconst 2, 1) := by decide +kernel
theorem dX11_flip_24 : decode cX11_flip 24 = .ok (.goto 30, 3) := by decide +kernel
theorem dX11_flip_27 : decode cX11_flip 27 = .ok (.aload_n 0, 1) := by decide +kernel
theorem dX11_flip_28 : decode cX11_flip 28 = .ok (.getfield 15, 3) := by decide +kernel
theorem dX11_flip_31 : decode cX11_flip 31 = .ok (.iload_n 1, 1) := by decide +kernel
theorem dX11_flip_32 : decode cX11_flip 32 = .ok (.aaload, 1) := by decide +kernel
theorem dX11_flip_33 : decode cX11_flip 33 = .ok (.iload_n 2, 1) := by decide +kernel
theorem dX11_flip_34 : decode cX11_flip 34 = .ok (.baload, 1) := by decide +kernel
theorem dX11_flip_35 : decode cX11_flip 35 = .ok (.ifCond .ne 18, 3) := by decide +kernel
theorem dX11_flip_38 : decode cX11_flip 38 = .ok (.aload_n 0, 1) := by decide +kernel
theorem dX11_flip_39 : decode cX11_flip 39 = .ok (.iload_n 1, 1) := by decide +kernel
theorem dX11_flip_40 : decode cX11_flip 40 = .ok (.invokevirtual 62, 3) := by decide +kernel
theorem dX11_flip_43 : decode cX11_flip 43 = .ok (.sipush 300, 3) := by decide +kernel
theorem dX11_flip_46 : decode cX11_flip 46 = .ok (.if_icmp .ne 7, 3) := by decide +kernel
theorem dX11_flip_49 : decode cX11_flip 49 = .ok (.iconst 3, 1) := by decide +kernel
theorem dX11_flip_50 : decode cX11_flip 50 = .ok (.goto 4, 3) := by decide +kernel
theorem dX11_flip_53 : decode cX11_flip 53 = .ok (.iconst 0, 1) := by decide +kernel
theorem dX11_flip_54 : decode cX11_flip 54 = .ok (.putfield 43, 3) := by decide +kernel
theorem dX11_flip_57 : decode cX11_flip 57 = .ok (.aload_n 0, 1) := by decide +kernel
theorem dX11_flip_58 : decode cX11_flip 58 = .ok (.getfield 43, 3) := by decide +kernel
theorem dX11_flip_61 : decode cX11_flip 61 = .ok (.ifCond .le 5, 3) := by decide +kernel
theorem dX11_flip_64 : decode cX11_flip 64 = .ok (.iconst 0, 1) := by decide +kernel
theorem dX11_flip_65 : decode cX11_flip 65 = .ok (.ireturn, 1) := by decide +kernel
theorem dX11_flip_66 : decode cX11_flip 66 = .ok (.aload_n 0, 1) := by decide +kernel
theorem dX11_flip_67 : decode cX11_flip 67 = .ok (.getfield 15, 3) := by decide +kernel
theorem dX11_flip_70 : decode cX11_flip 70 = .ok (.iload_n 1, 1) := by decide +kernel
theorem dX11_flip_71 : decode cX11_flip 71 = .ok (.aaload, 1) := by decide +kernel
theorem dX11_flip_72 : decode cX11_flip 72 = .ok (.iload_n 2, 1) := by decide +kernel
theorem dX11_flip_73 : decode cX11_flip 73 = .ok (.aload_n 0, 1) := by decide +kernel
theorem dX11_flip_74 : decode cX11_flip 74 = .ok (.getfield 15, 3) := by decide +kernel
theorem dX11_flip_77 : decode cX11_flip 77 = .ok (.iload_n 1, 1) := by decide +kernel
theorem dX11_flip_78 : decode cX11_flip 78 = .ok (.aaload, 1) := by decide +kernel
theorem dX11_flip_79 : decode cX11_flip 79 = .ok (.iload_n 2, 1) := by decide +kernel
theorem dX11_flip_80 : decode cX11_flip 80 = .ok (.baload, 1) := by decide +kernel
theorem dX11_flip_81 : decode cX11_flip 81 = .ok (.ifCond .ne 7, 3) := by decide +kernel
theorem dX11_flip_84 : decode cX11_flip 84 = .ok (.iconst 1, 1) := by decide +kernel
theorem dX11_flip_85 : decode cX11_flip 85 = .ok (.goto 4, 3) := by decide +kernel
theorem dX11_flip_88 : decode cX11_flip 88 = .ok (.iconst 0, 1) := by decide +kernel
theorem dX11_flip_89 : decode cX11_flip 89 = .ok (.bastore, 1) := by decide +kernel
theorem dX11_flip_90 : decode cX11_flip 90 = .ok (.aload_n 0, 1) := by decide +kernel
theorem dX11_flip_91 : decode cX11_flip 91 = .ok (.iload_n 1, 1) := by decide +kernel
theorem dX11_flip_92 : decode cX11_flip 92 = .ok (.invokevirtual 62, 3) := by decide +kernel
theorem dX11_flip_95 : decode cX11_flip 95 = .ok (.ireturn, 1) := by decide +kernel
theorem dX11_levelOf_0 : decode cX11_levelOf 0 = .ok (.aload_n 0, 1) := by decide +kernel
theorem dX11_levelOf_1 : decode cX11_levelOf 1 = .ok (.getfield 9, 3) := by decide +kernel
theorem dX11_levelOf_4 : decode cX11_levelOf 4 = .ok (.iload_n 1, 1) := by decide +kernel
theorem dX11_levelOf_5 : decode cX11_levelOf 5 = .ok (.baload, 1) := by decide +kernel
theorem dX11_levelOf_6 : decode cX11_levelOf 6 = .ok (.istore_n 3, 1) := by decide +kernel
theorem dX11_levelOf_7 : decode cX11_levelOf 7 = .ok (.iconst 0, 1) := by decide +kernel
theorem dX11_levelOf_8 : decode cX11_levelOf 8 = .ok (.istore 4, 2) := by decide +kernel
theorem dX11_levelOf_10 : decode cX11_levelOf 10 = .ok (.iload 4, 2) := by decide +kernel
theorem dX11_levelOf_12 : decode cX11_levelOf 12 = .ok (.iload_n 2, 1) := by decide +kernel
theorem dX11_levelOf_13 : decode cX11_levelOf 13 = .ok (.if_icmp .gt 28, 3) := by decide +kernel
theorem dX11_levelOf_16 : decode cX11_levelOf 16 = .ok (.iload_n 3, 1) := by decide +kernel
theorem dX11_levelOf_17 : decode cX11_levelOf 17 = .ok (.aload_n 0, 1) := by decide +kernel
theorem dX11_levelOf_18 : decode cX11_levelOf 18 = .ok (.getfield 15, 3) := by decide +kernel
theorem dX11_levelOf_21 : decode cX11_levelOf 21 = .ok (.iload_n 1, 1) := by decide +kernel
theorem dX11_levelOf_22 : decode cX11_levelOf 22 = .ok (.aaload, 1) := by decide +kernel
theorem dX11_levelOf_23 : decode cX11_levelOf 23 = .ok (.iload 4, 2) := by decide +kernel
theorem dX11_levelOf_25 : decode cX11_levelOf 25 = .ok (.baload, 1) := by decide +kernel
theorem dX11_levelOf_26 : decode cX11_levelOf 26 = .ok (.if_icmp .eq 7, 3) := by decide +kernel
theorem dX11_levelOf_29 : decode cX11_levelOf 29 = .ok (.iconst 1, 1) := by decide +kernel
theorem dX11_levelOf_30 : decode cX11_levelOf 30 = .ok (.goto 4, 3) := by decide +kernel
theorem dX11_levelOf_33 : decode cX11_levelOf 33 = .ok (.iconst 0, 1) := by decide +kernel
theorem dX11_levelOf_34 : decode cX11_levelOf 34 = .ok (.istore_n 3, 1) := by decide +kernel
theorem dX11_levelOf_35 : decode cX11_levelOf 35 = .ok (.iinc 4 1, 3) := by decide +kernel
theorem dX11_levelOf_38 : decode cX11_levelOf 38 = .ok (.goto (-28), 3) := by decide +kernel
theorem dX11_levelOf_41 : decode cX11_levelOf 41 = .ok (.iload_n 3, 1) := by decide +kernel
theorem dX11_levelOf_42 : decode cX11_levelOf 42 = .ok (.ireturn, 1) := by decide +kernel
theorem dX11_level_0 : decode cX11_level 0 = .ok (.aload_n 0, 1) := by decide +kernel
theorem dX11_level_1 : decode cX11_level 1 = .ok (.iload_n 1, 1) := by decide +kernel
theorem dX11_level_2 : decode cX11_level 2 = .ok (.invokevirtual 57, 3) := by decide +kernel
theorem dX11_level_5 : decode cX11_level 5 = .ok (.ifCond .eq 5, 3) := by decide +kernel
theorem dX11_level_8 : decode cX11_level 8 = .ok (.iconst 0, 1) := by decide +kernel
theorem dX11_level_9 : decode cX11_level 9 = .ok (.ireturn, 1) := by decide +kernel
theorem dX11_level_10 : decode cX11_level 10 = .ok (.aload_n 0, 1) := by decide +kernel
theorem dX11_level_11 : decode cX11_level 11 = .ok (.iload_n 2, 1) := by decide +kernel
theorem dX11_level_12 : decode cX11_level 12 = .ok (.i2l, 1) := by decide +kernel
theorem dX11_level_13 : decode cX11_level 13 = .ok (.lconst 0, 1) := by decide +kernel
theorem dX11_level_14 : decode cX11_level 14 = .ok (.ldc2_w 60, 3) := by decide +kernel
theorem dX11_level_17 : decode cX11_level 17 = .ok (.invokestatic 49, 3) := by decide +kernel
theorem dX11_level_20 : decode cX11_level 20 = .ok (.ifCond .eq 7, 3) := by decide +kernel
theorem dX11_level_23 : decode cX11_level 23 = .ok (.iconst 0, 1) := by decide +kernel
theorem dX11_level_24 : decode cX11_level 24 = .ok (.goto 4, 3) := by decide +kernel
theorem dX11_level_27 : decode cX11_level 27 = .ok (.iconst 2, 1) := by decide +kernel
theorem dX11_level_28 : decode cX11_level 28 = .ok (.putfield 43, 3) := by decide +kernel
theorem dX11_level_31 : decode cX11_level 31 = .ok (.aload_n 0, 1) := by decide +kernel
theorem dX11_level_32 : decode cX11_level 32 = .ok (.getfield 43, 3) := by decide +kernel
theorem dX11_level_35 : decode cX11_level 35 = .ok (.ifCond .ne 16, 3) := by decide +kernel
theorem dX11_level_38 : decode cX11_level 38 = .ok (.aload_n 0, 1) := by decide +kernel
theorem dX11_level_39 : decode cX11_level 39 = .ok (.iload_n 1, 1) := by decide +kernel
theorem dX11_level_40 : decode cX11_level 40 = .ok (.iload_n 2, 1) := by decide +kernel
theorem dX11_level_41 : decode cX11_level 41 = .ok (.invokevirtual 66, 3) := by decide +kernel
theorem dX11_level_44 : decode cX11_level 44 = .ok (.ifCond .eq 7, 3) := by decide +kernel
theorem dX11_level_47 : decode cX11_level 47 = .ok (.iconst 1, 1) := by decide +kernel
theorem dX11_level_48 : decode cX11_level 48 = .ok (.goto 4, 3) := by decide +kernel
theorem dX11_level_51 : decode cX11_level 51 = .ok (.iconst 0, 1) := by decide +kernel
theorem dX11_level_52 : decode cX11_level 52 = .ok (.ireturn, 1) := by decide +kernel
theorem dX11_copies_0 : decode cX11_copies 0 = .ok (.iconst 4, 1) := by decide +kernel
theorem dX11_copies_1 : decode cX11_copies 1 = .ok (.anewarray 70, 3) := by decide +kernel
theorem dX11_copies_4 : decode cX11_copies 4 = .ok (.astore_n 1, 1) := by decide +kernel
theorem dX11_copies_5 : decode cX11_copies 5 = .ok (.iconst 0, 1) := by decide +kernel
theorem dX11_copies_6 : decode cX11_copies 6 = .ok (.istore_n 2, 1) := by decide +kernel
theorem dX11_copies_7 : decode cX11_copies 7 = .ok (.iload_n 2, 1) := by decide +kernel
theorem dX11_copies_8 : decode cX11_copies 8 = .ok (.iconst 4, 1) := by decide +kernel
theorem dX11_copies_9 : decode cX11_copies 9 = .ok (.if_icmp .ge 24, 3) := by decide +kernel
theorem dX11_copies_12 : decode cX11_copies 12 = .ok (.aload_n 1, 1) := by decide +kernel
theorem dX11_copies_13 : decode cX11_copies 13 = .ok (.iload_n 2, 1) := by decide +kernel
theorem dX11_copies_14 : decode cX11_copies 14 = .ok (.aload_n 0, 1) := by decide +kernel
theorem dX11_copies_15 : decode cX11_copies 15 = .ok (.getfield 15, 3) := by decide +kernel
theorem dX11_copies_18 : decode cX11_copies 18 = .ok (.iload_n 2, 1) := by decide +kernel
theorem dX11_copies_19 : decode cX11_copies 19 = .ok (.aaload, 1) := by decide +kernel
theorem dX11_copies_20 : decode cX11_copies 20 = .ok (.invokevirtual 71, 3) := by decide +kernel
theorem dX11_copies_23 : decode cX11_copies 23 = .ok (.checkcast 70, 3) := by decide +kernel
theorem dX11_copies_26 : decode cX11_copies 26 = .ok (.aastore, 1) := by decide +kernel
theorem dX11_copies_27 : decode cX11_copies 27 = .ok (.iinc 2 1, 3) := by decide +kernel
theorem dX11_copies_30 : decode cX11_copies 30 = .ok (.goto (-23), 3) := by decide +kernel
theorem dX11_copies_33 : decode cX11_copies 33 = .ok (.aload_n 1, 1) := by decide +kernel
theorem dX11_copies_34 : decode cX11_copies 34 = .ok (.areturn, 1) := by decide +kernel
theorem dX11_turns_0 : decode cX11_turns 0 = .ok (.iload_n 2, 1) := by decide +kernel
theorem dX11_turns_1 : decode cX11_turns 1 = .ok (.sipush 9999, 3) := by decide +kernel
theorem dX11_turns_4 : decode cX11_turns 4 = .ok (.if_icmp .le 5, 3) := by decide +kernel
theorem dX11_turns_7 : decode cX11_turns 7 = .ok (.iconst 0, 1) := by decide +kernel
theorem dX11_turns_8 : decode cX11_turns 8 = .ok (.ireturn, 1) := by decide +kernel
theorem dX11_turns_9 : decode cX11_turns 9 = .ok (.aload_n 0, 1) := by decide +kernel
theorem dX11_turns_10 : decode cX11_turns 10 = .ok (.iload_n 1, 1) := by decide +kernel
theorem dX11_turns_11 : decode cX11_turns 11 = .ok (.aaload, 1) := by decide +kernel
theorem dX11_turns_12 : decode cX11_turns 12 = .ok (.iload_n 2, 1) := by decide +kernel
theorem dX11_turns_13 : decode cX11_turns 13 = .ok (.aload_n 0, 1) := by decide +kernel
theorem dX11_turns_14 : decode cX11_turns 14 = .ok (.iload_n 1, 1) := by decide +kernel
theorem dX11_turns_15 : decode cX11_turns 15 = .ok (.aaload, 1) := by decide +kernel
theorem dX11_turns_16 : decode cX11_turns 16 = .ok (.iload_n 2, 1) := by decide +kernel
theorem dX11_turns_17 : decode cX11_turns 17 = .ok (.baload, 1) := by decide +kernel
theorem dX11_turns_18 : decode cX11_turns 18 = .ok (.ifCond .ne 7, 3) := by decide +kernel
theorem dX11_turns_21 : decode cX11_turns 21 = .ok (.iconst 1, 1) := by decide +kernel
theorem dX11_turns_22 : decode cX11_turns 22 = .ok (.goto 4, 3) := by decide +kernel
theorem dX11_turns_25 : decode cX11_turns 25 = .ok (.iconst 0, 1) := by decide +kernel
theorem dX11_turns_26 : decode cX11_turns 26 = .ok (.bastore, 1) := by decide +kernel
theorem dX11_turns_27 : decode cX11_turns 27 = .ok (.iconst 1, 1) := by decide +kernel
theorem dX11_turns_28 : decode cX11_turns 28 = .ok (.ireturn, 1) := by decide +kernel
theorem dX11_areFew_0 : decode cX11_areFew 0 = .ok (.iconst 1, 1) := by decide +kernel
theorem dX11_areFew_1 : decode cX11_areFew 1 = .ok (.istore_n 1, 1) := by decide +kernel
theorem dX11_areFew_2 : decode cX11_areFew 2 = .ok (.aload_n 0, 1) := by decide +kernel
theorem dX11_areFew_3 : decode cX11_areFew 3 = .ok (.astore_n 2, 1) := by decide +kernel
theorem dX11_areFew_4 : decode cX11_areFew 4 = .ok (.aload_n 2, 1) := by decide +kernel
theorem dX11_areFew_5 : decode cX11_areFew 5 = .ok (.arraylength, 1) := by decide +kernel
theorem dX11_areFew_6 : decode cX11_areFew 6 = .ok (.istore_n 3, 1) := by decide +kernel
theorem dX11_areFew_7 : decode cX11_areFew 7 = .ok (.iconst 0, 1) := by decide +kernel
theorem dX11_areFew_8 : decode cX11_areFew 8 = .ok (.istore 4, 2) := by decide +kernel
theorem dX11_areFew_10 : decode cX11_areFew 10 = .ok (.iload 4, 2) := by decide +kernel
theorem dX11_areFew_12 : decode cX11_areFew 12 = .ok (.iload_n 3, 1) := by decide +kernel
theorem dX11_areFew_13 : decode cX11_areFew 13 = .ok (.if_icmp .ge 83, 3) := by decide +kernel
theorem dX11_areFew_16 : decode cX11_areFew 16 = .ok (.aload_n 2, 1) := by decide +kernel
theorem dX11_areFew_17 : decode cX11_areFew 17 = .ok (.iload 4, 2) := by decide +kernel
theorem dX11_areFew_19 : decode cX11_areFew 19 = .ok (.aaload, 1) := by decide +kernel
theorem dX11_areFew_20 : decode cX11_areFew 20 = .ok (.astore 5, 2) := by decide +kernel
theorem dX11_areFew_22 : decode cX11_areFew 22 = .ok (.iconst 0, 1) := by decide +kernel
theorem dX11_areFew_23 : decode cX11_areFew 23 = .ok (.istore 6, 2) := by decide +kernel
theorem dX11_areFew_25 : decode cX11_areFew 25 = .ok (.aload 5, 2) := by decide +kernel
theorem dX11_areFew_27 : decode cX11_areFew 27 = .ok (.astore 7, 2) := by decide +kernel
theorem dX11_areFew_29 : decode cX11_areFew 29 = .ok (.aload 7, 2) := by decide +kernel
theorem dX11_areFew_31 : decode cX11_areFew 31 = .ok (.arraylength, 1) := by decide +kernel
theorem dX11_areFew_32 : decode cX11_areFew 32 = .ok (.istore 8, 2) := by decide +kernel
theorem dX11_areFew_34 : decode cX11_areFew 34 = .ok (.iconst 0, 1) := by decide +kernel
theorem dX11_areFew_35 : decode cX11_areFew 35 = .ok (.istore 9, 2) := by decide +kernel
theorem dX11_areFew_37 : decode cX11_areFew 37 = .ok (.iload 9, 2) := by decide +kernel
theorem dX11_areFew_39 : decode cX11_areFew 39 = .ok (.iload 8, 2) := by decide +kernel
theorem dX11_areFew_41 : decode cX11_areFew 41 = .ok (.if_icmp .ge 31, 3) := by decide +kernel
theorem dX11_areFew_44 : decode cX11_areFew 44 = .ok (.aload 7, 2) := by decide +kernel
theorem dX11_areFew_46 : decode cX11_areFew 46 = .ok (.iload 9, 2) := by decide +kernel
theorem dX11_areFew_48 : decode cX11_areFew 48 = .ok (.baload, 1) := by decide +kernel
theorem dX11_areFew_49 : decode cX11_areFew 49 = .ok (.istore 10, 2) := by decide +kernel
theorem dX11_areFew_51 : decode cX11_areFew 51 = .ok (.iload 6, 2) := by decide +kernel
theorem dX11_areFew_53 : decode cX11_areFew 53 = .ok (.iload 10, 2) := by decide +kernel
theorem dX11_areFew_55 : decode cX11_areFew 55 = .ok (.ifCond .eq 7, 3) := by decide +kernel
theorem dX11_areFew_58 : decode cX11_areFew 58 = .ok (.iconst 1, 1) := by decide +kernel
theorem dX11_areFew_59 : decode cX11_areFew 59 = .ok (.goto 4, 3) := by decide +kernel
theorem dX11_areFew_62 : decode cX11_areFew 62 = .ok (.iconst 0, 1) := by decide +kernel
theorem dX11_areFew_63 : decode cX11_areFew 63 = .ok (.iadd, 1) := by decide +kernel
theorem dX11_areFew_64 : decode cX11_areFew 64 = .ok (.istore 6, 2) := by decide +kernel
theorem dX11_areFew_66 : decode cX11_areFew 66 = .ok (.iinc 9 1, 3) := by decide +kernel
theorem dX11_areFew_69 : decode cX11_areFew 69 = .ok (.goto (-32), 3) := by decide +kernel
theorem dX11_areFew_72 : decode cX11_areFew 72 = .ok (.iload_n 1, 1) := by decide +kernel
theorem dX11_areFew_73 : decode cX11_areFew 73 = .ok (.ifCond .eq 15, 3) := by decide +kernel
theorem dX11_areFew_76 : decode cX11_areFew 76 = .ok (.iload 6, 2) := by decide +kernel
theorem dX11_areFew_78 : decode cX11_areFew 78 = .ok (.sipush 300, 3) := by decide +kernel
theorem dX11_areFew_81 : decode cX11_areFew 81 = .ok (.if_icmp .gt 7, 3) := by decide +kernel
theorem dX11_areFew_84 : decode cX11_areFew 84 = .ok (.iconst 1, 1) := by decide +kernel
theorem dX11_areFew_85 : decode cX11_areFew 85 = .ok (.goto 4, 3) := by decide +kernel
theorem dX11_areFew_88 : decode cX11_areFew 88 = .ok (.iconst 0, 1) := by decide +kernel
theorem dX11_areFew_89 : decode cX11_areFew 89 = .ok (.istore_n 1, 1) := by decide +kernel
theorem dX11_areFew_90 : decode cX11_areFew 90 = .ok (.iinc 4 1, 3) := by decide +kernel
theorem dX11_areFew_93 : decode cX11_areFew 93 = .ok (.goto (-83), 3) := by decide +kernel
theorem dX11_areFew_96 : decode cX11_areFew 96 = .ok (.iload_n 1, 1) := by decide +kernel
theorem dX11_areFew_97 : decode cX11_areFew 97 = .ok (.ireturn, 1) := by decide +kernel
theorem dX11_glitch_0 : decode cX11_glitch 0 = .ok (.aload_n 0, 1) := by decide +kernel
theorem dX11_glitch_1 : decode cX11_glitch 1 = .ok (.iload_n 1, 1) := by decide +kernel
theorem dX11_glitch_2 : decode cX11_glitch 2 = .ok (.invokevirtual 57, 3) := by decide +kernel
theorem dX11_glitch_5 : decode cX11_glitch 5 = .ok (.ifCond .eq 5, 3) := by decide +kernel
theorem dX11_glitch_8 : decode cX11_glitch 8 = .ok (.iconst 0, 1) := by decide +kernel
theorem dX11_glitch_9 : decode cX11_glitch 9 = .ok (.ireturn, 1) := by decide +kernel
theorem dX11_glitch_10 : decode cX11_glitch 10 = .ok (.aload_n 0, 1) := by decide +kernel
theorem dX11_glitch_11 : decode cX11_glitch 11 = .ok (.iload_n 2, 1) := by decide +kernel
theorem dX11_glitch_12 : decode cX11_glitch 12 = .ok (.i2l, 1) := by decide +kernel
theorem dX11_glitch_13 : decode cX11_glitch 13 = .ok (.lconst 0, 1) := by decide +kernel
theorem dX11_glitch_14 : decode cX11_glitch 14 = .ok (.ldc2_w 60, 3) := by decide +kernel
theorem dX11_glitch_17 : decode cX11_glitch 17 = .ok (.invokestatic 49, 3) := by decide +kernel
theorem dX11_glitch_20 : decode cX11_glitch 20 = .ok (.ifCond .eq 28, 3) := by decide +kernel
theorem dX11_glitch_23 : decode cX11_glitch 23 = .ok (.iload_n 3, 1) := by decide +kernel
theorem dX11_glitch_24 : decode cX11_glitch 24 = .ok (.i2l, 1) := by decide +kernel
theorem dX11_glitch_25 : decode cX11_glitch 25 = .ok (.lconst 1, 1) := by decide +kernel
theorem dX11_glitch_26 : decode cX11_glitch 26 = .ok (.ldc2_w 75, 3) := by decide +kernel
theorem dX11_glitch_29 : decode cX11_glitch 29 = .ok (.invokestatic 49, 3) := by decide +kernel
theorem dX11_glitch_32 : decode cX11_glitch 32 = .ok (.ifCond .eq 16, 3) := by decide +kernel
theorem dX11_glitch_35 : decode cX11_glitch 35 = .ok (.iload_n 2, 1) := by decide +kernel
theorem dX11_glitch_36 : decode cX11_glitch 36 = .ok (.iload_n 3, 1) := by decide +kernel
theorem dX11_glitch_37 : decode cX11_glitch 37 = .ok (.iadd, 1) := by decide +kernel
theorem dX11_glitch_38 : decode cX11_glitch 38 = .ok (.sipush 9999, 3) := by decide +kernel
theorem dX11_glitch_41 : decode cX11_glitch 41 = .ok (.if_icmp .gt 7, 3) := by decide +kernel
theorem dX11_glitch_44 : decode cX11_glitch 44 = .ok (.iconst 0, 1) := by decide +kernel
theorem dX11_glitch_45 : decode cX11_glitch 45 = .ok (.goto 4, 3) := by decide +kernel
theorem dX11_glitch_48 : decode cX11_glitch 48 = .ok (.iconst 2, 1) := by decide +kernel
theorem dX11_glitch_49 : decode cX11_glitch 49 = .ok (.putfield 43, 3) := by decide +kernel
theorem dX11_glitch_52 : decode cX11_glitch 52 = .ok (.aload_n 0, 1) := by decide +kernel
theorem dX11_glitch_53 : decode cX11_glitch 53 = .ok (.getfield 43, 3) := by decide +kernel
theorem dX11_glitch_56 : decode cX11_glitch 56 = .ok (.ifCond .le 5, 3) := by decide +kernel
theorem dX11_glitch_59 : decode cX11_glitch 59 = .ok (.iconst 0, 1) := by decide +kernel
theorem dX11_glitch_60 : decode cX11_glitch 60 = .ok (.ireturn, 1) := by decide +kernel
theorem dX11_glitch_61 : decode cX11_glitch 61 = .ok (.aload_n 0, 1) := by decide +kernel
theorem dX11_glitch_62 : decode cX11_glitch 62 = .ok (.invokevirtual 77, 3) := by decide +kernel
theorem dX11_glitch_65 : decode cX11_glitch 65 = .ok (.astore 4, 2) := by decide +kernel
theorem dX11_glitch_67 : decode cX11_glitch 67 = .ok (.aload 4, 2) := by decide +kernel
theorem dX11_glitch_69 : decode cX11_glitch 69 = .ok (.iload_n 1, 1) := by decide +kernel
theorem dX11_glitch_70 : decode cX11_glitch 70 = .ok (.iload_n 2, 1) := by decide +kernel
theorem dX11_glitch_71 : decode cX11_glitch 71 = .ok (.invokestatic 81, 3) := by decide +kernel
theorem dX11_glitch_74 : decode cX11_glitch 74 = .ok (.ifCond .eq 19, 3) := by decide +kernel
theorem dX11_glitch_77 : decode cX11_glitch 77 = .ok (.aload 4, 2) := by decide +kernel
theorem dX11_glitch_79 : decode cX11_glitch 79 = .ok (.iload_n 1, 1) := by decide +kernel
theorem dX11_glitch_80 : decode cX11_glitch 80 = .ok (.iload_n 2, 1) := by decide +kernel
theorem dX11_glitch_81 : decode cX11_glitch 81 = .ok (.iload_n 3, 1) := by decide +kernel
theorem dX11_glitch_82 : decode cX11_glitch 82 = .ok (.iadd, 1) := by decide +kernel
theorem dX11_glitch_83 : decode cX11_glitch 83 = .ok (.invokestatic 81, 3) := by decide +kernel
theorem dX11_glitch_86 : decode cX11_glitch 86 = .ok (.ifCond .eq 7, 3) := by decide +kernel
theorem dX11_glitch_89 : decode cX11_glitch 89 = .ok (.iconst 1, 1) := by decide +kernel
theorem dX11_glitch_90 : decode cX11_glitch 90 = .ok (.goto 4, 3) := by decide +kernel
theorem dX11_glitch_93 : decode cX11_glitch 93 = .ok (.iconst 0, 1) := by decide +kernel
theorem dX11_glitch_94 : decode cX11_glitch 94 = .ok (.istore 5, 2) := by decide +kernel
theorem dX11_glitch_96 : decode cX11_glitch 96 = .ok (.aload_n 0, 1) := by decide +kernel
theorem dX11_glitch_97 : decode cX11_glitch 97 = .ok (.iload 5, 2) := by decide +kernel
theorem dX11_glitch_99 : decode cX11_glitch 99 = .ok (.ifCond .eq 15, 3) := by decide +kernel
theorem dX11_glitch_102 : decode cX11_glitch 102 = .ok (.aload 4, 2) := by decide +kernel
theorem dX11_glitch_104 : decode cX11_glitch 104 = .ok (.invokestatic 85, 3) := by decide +kernel
theorem dX11_glitch_107 : decode cX11_glitch 107 = .ok (.ifCond .eq 7, 3) := by decide +kernel
theorem dX11_glitch_110 : decode cX11_glitch 110 = .ok (.iconst 0, 1) := by decide +kernel
theorem dX11_glitch_111 : decode cX11_glitch 111 = .ok (.goto 4, 3) := by decide +kernel
theorem dX11_glitch_114 : decode cX11_glitch 114 = .ok (.iconst 3, 1) := by decide +kernel
theorem dX11_glitch_115 : decode cX11_glitch 115 = .ok (.putfield 43, 3) := by decide +kernel
theorem dX11_glitch_118 : decode cX11_glitch 118 = .ok (.aload_n 0, 1) := by decide +kernel
theorem dX11_glitch_119 : decode cX11_glitch 119 = .ok (.getfield 43, 3) := by decide +kernel
theorem dX11_glitch_122 : decode cX11_glitch 122 = .ok (.ifCond .le 5, 3) := by decide +kernel
theorem dX11_glitch_125 : decode cX11_glitch 125 = .ok (.iconst 0, 1) := by decide +kernel
theorem dX11_glitch_126 : decode cX11_glitch 126 = .ok (.ireturn, 1) := by decide +kernel
theorem dX11_glitch_127 : decode cX11_glitch 127 = .ok (.aload_n 0, 1) := by decide +kernel
theorem dX11_glitch_128 : decode cX11_glitch 128 = .ok (.aload 4, 2) := by decide +kernel
theorem dX11_glitch_130 : decode cX11_glitch 130 = .ok (.putfield 15, 3) := by decide +kernel
theorem dX11_glitch_133 : decode cX11_glitch 133 = .ok (.aload_n 0, 1) := by decide +kernel
theorem dX11_glitch_134 : decode cX11_glitch 134 = .ok (.iload_n 1, 1) := by decide +kernel
theorem dX11_glitch_135 : decode cX11_glitch 135 = .ok (.invokevirtual 62, 3) := by decide +kernel
theorem dX11_glitch_138 : decode cX11_glitch 138 = .ok (.ireturn, 1) := by decide +kernel
theorem dX11_drift_0 : decode cX11_drift 0 = .ok (.aload_n 0, 1) := by decide +kernel
theorem dX11_drift_1 : decode cX11_drift 1 = .ok (.iload_n 1, 1) := by decide +kernel
theorem dX11_drift_2 : decode cX11_drift 2 = .ok (.i2l, 1) := by decide +kernel
theorem dX11_drift_3 : decode cX11_drift 3 = .ok (.ldc2_w 89, 3) := by decide +kernel
theorem dX11_drift_6 : decode cX11_drift 6 = .ok (.ldc2_w 91, 3) := by decide +kernel
theorem dX11_drift_9 : decode cX11_drift 9 = .ok (.invokestatic 49, 3) := by decide +kernel
theorem dX11_drift_12 : decode cX11_drift 12 = .ok (.ifCond .eq 7, 3) := by decide +kernel
theorem dX11_drift_15 : decode cX11_drift 15 = .ok (.iconst 0, 1) := by decide +kernel
theorem dX11_drift_16 : decode cX11_drift 16 = .ok (.goto 4, 3) := by decide +kernel
theorem dX11_drift_19 : decode cX11_drift 19 = .ok (.iconst 1, 1) := by decide +kernel
theorem dX11_drift_20 : decode cX11_drift 20 = .ok (.putfield 43, 3) := by decide +kernel
theorem dX11_drift_23 : decode cX11_drift 23 = .ok (.aload_n 0, 1) := by decide +kernel
theorem dX11_drift_24 : decode cX11_drift 24 = .ok (.getfield 43, 3) := by decide +kernel
theorem dX11_drift_27 : decode cX11_drift 27 = .ok (.ifCond .le 5, 3) := by decide +kernel
theorem dX11_drift_30 : decode cX11_drift 30 = .ok (.iconst 0, 1) := by decide +kernel
theorem dX11_drift_31 : decode cX11_drift 31 = .ok (.ireturn, 1) := by decide +kernel
theorem dX11_drift_32 : decode cX11_drift 32 = .ok (.aload_n 0, 1) := by decide +kernel
theorem dX11_drift_33 : decode cX11_drift 33 = .ok (.getfield 93, 3) := by decide +kernel
theorem dX11_drift_36 : decode cX11_drift 36 = .ok (.istore_n 2, 1) := by decide +kernel
theorem dX11_drift_37 : decode cX11_drift 37 = .ok (.aload_n 0, 1) := by decide +kernel
theorem dX11_drift_38 : decode cX11_drift 38 = .ok (.iload_n 1, 1) := by decide +kernel
theorem dX11_drift_39 : decode cX11_drift 39 = .ok (.putfield 93, 3) := by decide +kernel
theorem dX11_drift_42 : decode cX11_drift 42 = .ok (.iload_n 2, 1) := by decide +kernel
theorem dX11_drift_43 : decode cX11_drift 43 = .ok (.ireturn, 1) := by decide +kernel
theorem dX11_drifted_0 : decode cX11_drifted 0 = .ok (.iload_n 1, 1) := by decide +kernel
theorem dX11_drifted_1 : decode cX11_drifted 1 = .ok (.iload_n 2, 1) := by decide +kernel
theorem dX11_drifted_2 : decode cX11_drifted 2 = .ok (.iadd, 1) := by decide +kernel
theorem dX11_drifted_3 : decode cX11_drifted 3 = .ok (.iload_n 2, 1) := by decide +kernel
theorem dX11_drifted_4 : decode cX11_drifted 4 = .ok (.aload_n 0, 1) := by decide +kernel
theorem dX11_drifted_5 : decode cX11_drifted 5 = .ok (.getfield 93, 3) := by decide +kernel
theorem dX11_drifted_8 : decode cX11_drifted 8 = .ok (.imul, 1) := by decide +kernel
theorem dX11_drifted_9 : decode cX11_drifted 9 = .ok (.sipush 1000, 3) := by decide +kernel
theorem dX11_drifted_12 : decode cX11_drifted 12 = .ok (.idiv, 1) := by decide +kernel
theorem dX11_drifted_13 : decode cX11_drifted 13 = .ok (.iadd, 1) := by decide +kernel
theorem dX11_drifted_14 : decode cX11_drifted 14 = .ok (.ireturn, 1) := by decide +kernel
theorem dX11_isParity_0 : decode cX11_isParity 0 = .ok (.iload_n 0, 1) := by decide +kernel
theorem dX11_isParity_1 : decode cX11_isParity 1 = .ok (.bipush 110, 2) := by decide +kernel
theorem dX11_isParity_3 : decode cX11_isParity 3 = .ok (.if_icmp .eq 15, 3) := by decide +kernel
theorem dX11_isParity_6 : decode cX11_isParity 6 = .ok (.iload_n 0, 1) := by decide +kernel
theorem dX11_isParity_7 : decode cX11_isParity 7 = .ok (.bipush 101, 2) := by decide +kernel
theorem dX11_isParity_9 : decode cX11_isParity 9 = .ok (.if_icmp .eq 9, 3) := by decide +kernel
theorem dX11_isParity_12 : decode cX11_isParity 12 = .ok (.iload_n 0, 1) := by decide +kernel
theorem dX11_isParity_13 : decode cX11_isParity 13 = .ok (.bipush 111, 2) := by decide +kernel
theorem dX11_isParity_15 : decode cX11_isParity 15 = .ok (.if_icmp .ne 7, 3) := by decide +kernel
theorem dX11_isParity_18 : decode cX11_isParity 18 = .ok (.iconst 1, 1) := by decide +kernel
theorem dX11_isParity_19 : decode cX11_isParity 19 = .ok (.goto 4, 3) := by decide +kernel
theorem dX11_isParity_22 : decode cX11_isParity 22 = .ok (.iconst 0, 1) := by decide +kernel
theorem dX11_isParity_23 : decode cX11_isParity 23 = .ok (.ireturn, 1) := by decide +kernel
theorem dX11_serial_0 : decode cX11_serial 0 = .ok (.aload_n 0, 1) := by decide +kernel
theorem dX11_serial_1 : decode cX11_serial 1 = .ok (.iload_n 1, 1) := by decide +kernel
theorem dX11_serial_2 : decode cX11_serial 2 = .ok (.invokevirtual 57, 3) := by decide +kernel
theorem dX11_serial_5 : decode cX11_serial 5 = .ok (.ifCond .eq 5, 3) := by decide +kernel
theorem dX11_serial_8 : decode cX11_serial 8 = .ok (.iconst 0, 1) := by decide +kernel
theorem dX11_serial_9 : decode cX11_serial 9 = .ok (.ireturn, 1) := by decide +kernel
theorem dX11_serial_10 : decode cX11_serial 10 = .ok (.iload_n 2, 1) := by decide +kernel
theorem dX11_serial_11 : decode cX11_serial 11 = .ok (.i2l, 1) := by decide +kernel
theorem dX11_serial_12 : decode cX11_serial 12 = .ok (.lconst 0, 1) := by decide +kernel
theorem dX11_serial_13 : decode cX11_serial 13 = .ok (.ldc2_w 96, 3) := by decide +kernel
theorem dX11_serial_16 : decode cX11_serial 16 = .ok (.invokestatic 49, 3) := by decide +kernel
theorem dX11_serial_19 : decode cX11_serial 19 = .ok (.ifCond .eq 42, 3) := by decide +kernel
theorem dX11_serial_22 : decode cX11_serial 22 = .ok (.iload_n 3, 1) := by decide +kernel
theorem dX11_serial_23 : decode cX11_serial 23 = .ok (.i2l, 1) := by decide +kernel
theorem dX11_serial_24 : decode cX11_serial 24 = .ok (.lconst 0, 1) := by decide +kernel
theorem dX11_serial_25 : decode cX11_serial 25 = .ok (.ldc2_w 60, 3) := by decide +kernel
theorem dX11_serial_28 : decode cX11_serial 28 = .ok (.invokestatic 49, 3) := by decide +kernel
theorem dX11_serial_31 : decode cX11_serial 31 = .ok (.ifCond .eq 30, 3) := by decide +kernel
theorem dX11_serial_34 : decode cX11_serial 34 = .ok (.iload 4, 2) := by decide +kernel
theorem dX11_serial_36 : decode cX11_serial 36 = .ok (.i2l, 1) := by decide +kernel
theorem dX11_serial_37 : decode cX11_serial 37 = .ok (.ldc2_w 98, 3) := by decide +kernel
theorem dX11_serial_40 : decode cX11_serial 40 = .ok (.ldc2_w 91, 3) := by decide +kernel
theorem dX11_serial_43 : decode cX11_serial 43 = .ok (.invokestatic 49, 3) := by decide +kernel
theorem dX11_serial_46 : decode cX11_serial 46 = .ok (.ifCond .eq 15, 3) := by decide +kernel
theorem dX11_serial_49 : decode cX11_serial 49 = .ok (.iload 5, 2) := by decide +kernel
theorem dX11_serial_51 : decode cX11_serial 51 = .ok (.invokestatic 100, 3) := by decide +kernel
theorem dX11_serial_54 : decode cX11_serial 54 = .ok (.ifCond .eq 7, 3) := by decide +kernel
theorem dX11_serial_57 : decode cX11_serial 57 = .ok (.iconst 1, 1) := by decide +kernel
theorem dX11_serial_58 : decode cX11_serial 58 = .ok (.goto 4, 3) := by decide +kernel
theorem dX11_serial_61 : decode cX11_serial 61 = .ok (.iconst 0, 1) := by decide +kernel
theorem dX11_serial_62 : decode cX11_serial 62 = .ok (.istore 6, 2) := by decide +kernel
theorem dX11_serial_64 : decode cX11_serial 64 = .ok (.aload_n 0, 1) := by decide +kernel
theorem dX11_serial_65 : decode cX11_serial 65 = .ok (.iload 6, 2) := by decide +kernel
theorem dX11_serial_67 : decode cX11_serial 67 = .ok (.ifCond .eq 7, 3) := by decide +kernel
theorem dX11_serial_70 : decode cX11_serial 70 = .ok (.iconst 0, 1) := by decide +kernel
theorem dX11_serial_71 : decode cX11_serial 71 = .ok (.goto 4, 3) := by decide +kernel
theorem dX11_serial_74 : decode cX11_serial 74 = .ok (.iconst 2, 1) := by decide +kernel
theorem dX11_serial_75 : decode cX11_serial 75 = .ok (.putfield 43, 3) := by decide +kernel
theorem dX11_serial_78 : decode cX11_serial 78 = .ok (.aload_n 0, 1) := by decide +kernel
theorem dX11_serial_79 : decode cX11_serial 79 = .ok (.getfield 43, 3) := by decide +kernel
theorem dX11_serial_82 : decode cX11_serial 82 = .ok (.ifCond .le 5, 3) := by decide +kernel
theorem dX11_serial_85 : decode cX11_serial 85 = .ok (.iconst 0, 1) := by decide +kernel
theorem dX11_serial_86 : decode cX11_serial 86 = .ok (.ireturn, 1) := by decide +kernel
theorem dX11_serial_87 : decode cX11_serial 87 = .ok (.new 104, 3) := by decide +kernel
theorem dX11_serial_90 : decode cX11_serial 90 = .ok (.dup, 1) := by decide +kernel
theorem dX11_serial_91 : decode cX11_serial 91 = .ok (.aload_n 0, 1) := by decide +kernel
theorem dX11_serial_92 : decode cX11_serial 92 = .ok (.iload_n 3, 1) := by decide +kernel
theorem dX11_serial_93 : decode cX11_serial 93 = .ok (.invokespecial 106, 3) := by decide +kernel
theorem dX11_serial_96 : decode cX11_serial 96 = .ok (.astore 7, 2) := by decide +kernel
theorem dX11_serial_98 : decode cX11_serial 98 = .ok (.aload 7, 2) := by decide +kernel
theorem dX11_serial_100 : decode cX11_serial 100 = .ok (.getfield 109, 3) := by decide +kernel
theorem dX11_serial_103 : decode cX11_serial 103 = .ok (.iload_n 1, 1) := by decide +kernel
theorem dX11_serial_104 : decode cX11_serial 104 = .ok (.iconst 1, 1) := by decide +kernel
theorem dX11_serial_105 : decode cX11_serial 105 = .ok (.bastore, 1) := by decide +kernel
theorem dX11_serial_106 : decode cX11_serial 106 = .ok (.aload 7, 2) := by decide +kernel
theorem dX11_serial_108 : decode cX11_serial 108 = .ok (.iload_n 1, 1) := by decide +kernel
theorem dX11_serial_109 : decode cX11_serial 109 = .ok (.iconst 0, 1) := by decide +kernel
theorem dX11_serial_110 : decode cX11_serial 110 = .ok (.iconst 0, 1) := by decide +kernel
theorem dX11_serial_111 : decode cX11_serial 111 = .ok (.invokevirtual 112, 3) := by decide +kernel
theorem dX11_serial_114 : decode cX11_serial 114 = .ok (.iconst 0, 1) := by decide +kernel
theorem dX11_serial_115 : decode cX11_serial 115 = .ok (.istore 8, 2) := by decide +kernel
theorem dX11_serial_117 : decode cX11_serial 117 = .ok (.iload 8, 2) := by decide +kernel
theorem dX11_serial_119 : decode cX11_serial 119 = .ok (.bipush 8, 2) := by decide +kernel
theorem dX11_serial_121 : decode cX11_serial 121 = .ok (.if_icmp .ge 37, 3) := by decide +kernel
theorem dX11_serial_124 : decode cX11_serial 124 = .ok (.aload 7, 2) := by decide +kernel
theorem dX11_serial_126 : decode cX11_serial 126 = .ok (.iload_n 1, 1) := by decide +kernel
theorem dX11_serial_127 : decode cX11_serial 127 = .ok (.iload 8, 2) := by decide +kernel
theorem dX11_serial_129 : decode cX11_serial 129 = .ok (.iconst 1, 1) := by decide +kernel
theorem dX11_serial_130 : decode cX11_serial 130 = .ok (.iadd, 1) := by decide +kernel
theorem dX11_serial_131 : decode cX11_serial 131 = .ok (.iload 4, 2) := by decide +kernel
theorem dX11_serial_133 : decode cX11_serial 133 = .ok (.imul, 1) := by decide +kernel
theorem dX11_serial_134 : decode cX11_serial 134 = .ok (.iload_n 2, 1) := by decide +kernel
theorem dX11_serial_135 : decode cX11_serial 135 = .ok (.iload 8, 2) := by decide +kernel
theorem dX11_serial_137 : decode cX11_serial 137 = .ok (.ishr, 1) := by decide +kernel
theorem dX11_serial_138 : decode cX11_serial 138 = .ok (.iconst 1, 1) := by decide +kernel
theorem dX11_serial_139 : decode cX11_serial 139 = .ok (.iand, 1) := by decide +kernel
theorem dX11_serial_140 : decode cX11_serial 140 = .ok (.iconst 1, 1) := by decide +kernel
theorem dX11_serial_141 : decode cX11_serial 141 = .ok (.if_icmp .ne 7, 3) := by decide +kernel
theorem dX11_serial_144 : decode cX11_serial 144 = .ok (.iconst 1, 1) := by decide +kernel
theorem dX11_serial_145 : decode cX11_serial 145 = .ok (.goto 4, 3) := by decide +kernel
theorem dX11_serial_148 : decode cX11_serial 148 = .ok (.iconst 0, 1) := by decide +kernel
theorem dX11_serial_149 : decode cX11_serial 149 = .ok (.invokevirtual 112, 3) := by decide +kernel
theorem dX11_serial_152 : decode cX11_serial 152 = .ok (.iinc 8 1, 3) := by decide +kernel
theorem dX11_serial_155 : decode cX11_serial 155 = .ok (.goto (-38), 3) := by decide +kernel
theorem dX11_serial_158 : decode cX11_serial 158 = .ok (.bipush 9, 2) := by decide +kernel
theorem dX11_serial_160 : decode cX11_serial 160 = .ok (.istore 8, 2) := by decide +kernel
theorem dX11_serial_162 : decode cX11_serial 162 = .ok (.iload 5, 2) := by decide +kernel
theorem dX11_serial_164 : decode cX11_serial 164 = .ok (.bipush 110, 2) := by decide +kernel
theorem dX11_serial_166 : decode cX11_serial 166 = .ok (.if_icmp .eq 56, 3) := by decide +kernel
theorem dX11_serial_169 : decode cX11_serial 169 = .ok (.iload_n 2, 1) := by decide +kernel
theorem dX11_serial_170 : decode cX11_serial 170 = .ok (.invokestatic 116, 3) := by decide +kernel
theorem dX11_serial_173 : decode cX11_serial 173 = .ok (.iconst 2, 1) := by decide +kernel
theorem dX11_serial_174 : decode cX11_serial 174 = .ok (.irem, 1) := by decide +kernel
theorem dX11_serial_175 : decode cX11_serial 175 = .ok (.iconst 1, 1) := by decide +kernel
theorem dX11_serial_176 : decode cX11_serial 176 = .ok (.if_icmp .ne 7, 3) := by decide +kernel
theorem dX11_serial_179 : decode cX11_serial 179 = .ok (.iconst 1, 1) := by decide +kernel
theorem dX11_serial_180 : decode cX11_serial 180 = .ok (.goto 4, 3) := by decide +kernel
theorem dX11_serial_183 : decode cX11_serial 183 = .ok (.iconst 0, 1) := by decide +kernel
theorem dX11_serial_184 : decode cX11_serial 184 = .ok (.istore 9, 2) := by decide +kernel
theorem dX11_serial_186 : decode cX11_serial 186 = .ok (.aload 7, 2) := by decide +kernel
theorem dX11_serial_188 : decode cX11_serial 188 = .ok (.iload_n 1, 1) := by decide +kernel
theorem dX11_serial_189 : decode cX11_serial 189 = .ok (.iload 8, 2) := by decide +kernel
theorem dX11_serial_191 : decode cX11_serial 191 = .ok (.iload 4, 2) := by decide +kernel
theorem dX11_serial_193 : decode cX11_serial 193 = .ok (.imul, 1) := by decide +kernel
theorem dX11_serial_194 : decode cX11_serial 194 = .ok (.iload 9, 2) := by decide +kernel
theorem dX11_serial_196 : decode cX11_serial 196 = .ok (.iload 5, 2) := by decide +kernel
theorem dX11_serial_198 : decode cX11_serial 198 = .ok (.bipush 101, 2) := by decide +kernel
theorem dX11_serial_200 : decode cX11_serial 200 = .ok (.if_icmp .ne 7, 3) := by decide +kernel
theorem dX11_serial_203 : decode cX11_serial 203 = .ok (.iconst 1, 1) := by decide +kernel
theorem dX11_serial_204 : decode cX11_serial 204 = .ok (.goto 4, 3) := by decide +kernel
theorem dX11_serial_207 : decode cX11_serial 207 = .ok (.iconst 0, 1) := by decide +kernel
theorem dX11_serial_208 : decode cX11_serial 208 = .ok (.if_icmp .ne 7, 3) := by decide +kernel
theorem dX11_serial_211 : decode cX11_serial 211 = .ok (.iconst 1, 1) := by decide +kernel
theorem dX11_serial_212 : decode cX11_serial 212 = .ok (.goto 4, 3) := by decide +kernel
theorem dX11_serial_215 : decode cX11_serial 215 = .ok (.iconst 0, 1) := by decide +kernel
theorem dX11_serial_216 : decode cX11_serial 216 = .ok (.invokevirtual 112, 3) := by decide +kernel
theorem dX11_serial_219 : decode cX11_serial 219 = .ok (.iinc 8 1, 3) := by decide +kernel
theorem dX11_serial_222 : decode cX11_serial 222 = .ok (.aload 7, 2) := by decide +kernel
theorem dX11_serial_224 : decode cX11_serial 224 = .ok (.iload_n 1, 1) := by decide +kernel
theorem dX11_serial_225 : decode cX11_serial 225 = .ok (.iload 8, 2) := by decide +kernel
theorem dX11_serial_227 : decode cX11_serial 227 = .ok (.iload 4, 2) := by decide +kernel
theorem dX11_serial_229 : decode cX11_serial 229 = .ok (.imul, 1) := by decide +kernel
theorem dX11_serial_230 : decode cX11_serial 230 = .ok (.iconst 1, 1) := by decide +kernel
theorem dX11_serial_231 : decode cX11_serial 231 = .ok (.invokevirtual 112, 3) := by decide +kernel
theorem dX11_serial_234 : decode cX11_serial 234 = .ok (.aload 7, 2) := by decide +kernel
theorem dX11_serial_236 : decode cX11_serial 236 = .ok (.iload 8, 2) := by decide +kernel
theorem dX11_serial_238 : decode cX11_serial 238 = .ok (.iconst 1, 1) := by decide +kernel
theorem dX11_serial_239 : decode cX11_serial 239 = .ok (.iadd, 1) := by decide +kernel
theorem dX11_serial_240 : decode cX11_serial 240 = .ok (.iload 4, 2) := by decide +kernel
theorem dX11_serial_242 : decode cX11_serial 242 = .ok (.imul, 1) := by decide +kernel
theorem dX11_serial_243 : decode cX11_serial 243 = .ok (.invokevirtual 121, 3) := by decide +kernel
theorem dX11_serial_246 : decode cX11_serial 246 = .ok (.ireturn, 1) := by decide +kernel
theorem dX11_answers_0 : decode cX11_answers 0 = .ok (.aload_n 0, 1) := by decide +kernel
theorem dX11_answers_1 : decode cX11_answers 1 = .ok (.iconst 0, 1) := by decide +kernel
theorem dX11_answers_2 : decode cX11_answers 2 = .ok (.putfield 43, 3) := by decide +kernel
theorem dX11_answers_5 : decode cX11_answers 5 = .ok (.aload_n 0, 1) := by decide +kernel
theorem dX11_answers_6 : decode cX11_answers 6 = .ok (.getfield 18, 3) := by decide +kernel
theorem dX11_answers_9 : decode cX11_answers 9 = .ok (.ifCond .eq 14, 3) := by decide +kernel
theorem dX11_answers_12 : decode cX11_answers 12 = .ok (.aload_n 0, 1) := by decide +kernel
theorem dX11_answers_13 : decode cX11_answers 13 = .ok (.getfield 22, 3) := by decide +kernel
theorem dX11_answers_16 : decode cX11_answers 16 = .ok (.ifCond .eq 7, 3) := by decide +kernel
theorem dX11_answers_19 : decode cX11_answers 19 = .ok (.iconst 1, 1) := by decide +kernel
theorem dX11_answers_20 : decode cX11_answers 20 = .ok (.goto 4, 3) := by decide +kernel
theorem dX11_answers_23 : decode cX11_answers 23 = .ok (.iconst 0, 1) := by decide +kernel
theorem dX11_answers_24 : decode cX11_answers 24 = .ok (.istore_n 3, 1) := by decide +kernel
theorem dX11_answers_25 : decode cX11_answers 25 = .ok (.aload_n 0, 1) := by decide +kernel
theorem dX11_answers_26 : decode cX11_answers 26 = .ok (.iload_n 1, 1) := by decide +kernel
theorem dX11_answers_27 : decode cX11_answers 27 = .ok (.putfield 18, 3) := by decide +kernel
theorem dX11_answers_30 : decode cX11_answers 30 = .ok (.aload_n 0, 1) := by decide +kernel
theorem dX11_answers_31 : decode cX11_answers 31 = .ok (.iload_n 2, 1) := by decide +kernel
theorem dX11_answers_32 : decode cX11_answers 32 = .ok (.putfield 22, 3) := by decide +kernel
theorem dX11_answers_35 : decode cX11_answers 35 = .ok (.iload_n 3, 1) := by decide +kernel
theorem dX11_answers_36 : decode cX11_answers 36 = .ok (.ireturn, 1) := by decide +kernel
theorem dX11_twoWires_0 : decode cX11_twoWires 0 = .ok (.aload_n 0, 1) := by decide +kernel
theorem dX11_twoWires_1 : decode cX11_twoWires 1 = .ok (.iload_n 1, 1) := by decide +kernel
theorem dX11_twoWires_2 : decode cX11_twoWires 2 = .ok (.invokestatic 53, 3) := by decide +kernel
theorem dX11_twoWires_5 : decode cX11_twoWires 5 = .ok (.ifCond .eq 14, 3) := by decide +kernel
theorem dX11_twoWires_8 : decode cX11_twoWires 8 = .ok (.iload_n 2, 1) := by decide +kernel
theorem dX11_twoWires_9 : decode cX11_twoWires 9 = .ok (.invokestatic 53, 3) := by decide +kernel
theorem dX11_twoWires_12 : decode cX11_twoWires 12 = .ok (.ifCond .eq 7, 3) := by decide +kernel
theorem dX11_twoWires_15 : decode cX11_twoWires 15 = .ok (.iconst 0, 1) := by decide +kernel
theorem dX11_twoWires_16 : decode cX11_twoWires 16 = .ok (.goto 4, 3) := by decide +kernel
theorem dX11_twoWires_19 : decode cX11_twoWires 19 = .ok (.iconst 1, 1) := by decide +kernel
theorem dX11_twoWires_20 : decode cX11_twoWires 20 = .ok (.putfield 43, 3) := by decide +kernel
theorem dX11_twoWires_23 : decode cX11_twoWires 23 = .ok (.aload_n 0, 1) := by decide +kernel
theorem dX11_twoWires_24 : decode cX11_twoWires 24 = .ok (.getfield 43, 3) := by decide +kernel
theorem dX11_twoWires_27 : decode cX11_twoWires 27 = .ok (.ifCond .le 5, 3) := by decide +kernel
theorem dX11_twoWires_30 : decode cX11_twoWires 30 = .ok (.iconst 0, 1) := by decide +kernel
theorem dX11_twoWires_31 : decode cX11_twoWires 31 = .ok (.ireturn, 1) := by decide +kernel
theorem dX11_twoWires_32 : decode cX11_twoWires 32 = .ok (.iload_n 1, 1) := by decide +kernel
theorem dX11_twoWires_33 : decode cX11_twoWires 33 = .ok (.iload_n 2, 1) := by decide +kernel
theorem dX11_twoWires_34 : decode cX11_twoWires 34 = .ok (.if_icmp .eq 45, 3) := by decide +kernel
theorem dX11_twoWires_37 : decode cX11_twoWires 37 = .ok (.iload_n 3, 1) := by decide +kernel
theorem dX11_twoWires_38 : decode cX11_twoWires 38 = .ok (.i2l, 1) := by decide +kernel
theorem dX11_twoWires_39 : decode cX11_twoWires 39 = .ok (.lconst 0, 1) := by decide +kernel
theorem dX11_twoWires_40 : decode cX11_twoWires 40 = .ok (.ldc2_w 124, 3) := by decide +kernel
theorem dX11_twoWires_43 : decode cX11_twoWires 43 = .ok (.invokestatic 49, 3) := by decide +kernel
theorem dX11_twoWires_46 : decode cX11_twoWires 46 = .ok (.ifCond .eq 33, 3) := by decide +kernel
theorem dX11_twoWires_49 : decode cX11_twoWires 49 = .ok (.iload 5, 2) := by decide +kernel
theorem dX11_twoWires_51 : decode cX11_twoWires 51 = .ok (.i2l, 1) := by decide +kernel
theorem dX11_twoWires_52 : decode cX11_twoWires 52 = .ok (.lconst 0, 1) := by decide +kernel
theorem dX11_twoWires_53 : decode cX11_twoWires 53 = .ok (.ldc2_w 126, 3) := by decide +kernel
theorem dX11_twoWires_56 : decode cX11_twoWires 56 = .ok (.invokestatic 49, 3) := by decide +kernel
theorem dX11_twoWires_59 : decode cX11_twoWires 59 = .ok (.ifCond .eq 20, 3) := by decide +kernel
theorem dX11_twoWires_62 : decode cX11_twoWires 62 = .ok (.iload 6, 2) := by decide +kernel
theorem dX11_twoWires_64 : decode cX11_twoWires 64 = .ok (.i2l, 1) := by decide +kernel
theorem dX11_twoWires_65 : decode cX11_twoWires 65 = .ok (.lconst 0, 1) := by decide +kernel
theorem dX11_twoWires_66 : decode cX11_twoWires 66 = .ok (.ldc2_w 96, 3) := by decide +kernel
theorem dX11_twoWires_69 : decode cX11_twoWires 69 = .ok (.invokestatic 49, 3) := by decide +kernel
theorem dX11_twoWires_72 : decode cX11_twoWires 72 = .ok (.ifCond .eq 7, 3) := by decide +kernel
theorem dX11_twoWires_75 : decode cX11_twoWires 75 = .ok (.iconst 1, 1) := by decide +kernel
theorem dX11_twoWires_76 : decode cX11_twoWires 76 = .ok (.goto 4, 3) := by decide +kernel
theorem dX11_twoWires_79 : decode cX11_twoWires 79 = .ok (.iconst 0, 1) := by decide +kernel
theorem dX11_twoWires_80 : decode cX11_twoWires 80 = .ok (.istore 9, 2) := by decide +kernel
theorem dX11_twoWires_82 : decode cX11_twoWires 82 = .ok (.aload_n 0, 1) := by decide +kernel
theorem dX11_twoWires_83 : decode cX11_twoWires 83 = .ok (.iload 9, 2) := by decide +kernel
theorem dX11_twoWires_85 : decode cX11_twoWires 85 = .ok (.ifCond .eq 33, 3) := by decide +kernel
theorem dX11_twoWires_88 : decode cX11_twoWires 88 = .ok (.iload 7, 2) := by decide +kernel
theorem dX11_twoWires_90 : decode cX11_twoWires 90 = .ok (.i2l, 1) := by decide +kernel
theorem dX11_twoWires_91 : decode cX11_twoWires 91 = .ok (.lconst 0, 1) := by decide +kernel
theorem dX11_twoWires_92 : decode cX11_twoWires 92 = .ok (.ldc2_w 60, 3) := by decide +kernel
theorem dX11_twoWires_95 : decode cX11_twoWires 95 = .ok (.invokestatic 49, 3) := by decide +kernel
theorem dX11_twoWires_98 : decode cX11_twoWires 98 = .ok (.ifCond .eq 20, 3) := by decide +kernel
theorem dX11_twoWires_101 : decode cX11_twoWires 101 = .ok (.iload 8, 2) := by decide +kernel
theorem dX11_twoWires_103 : decode cX11_twoWires 103 = .ok (.i2l, 1) := by decide +kernel
theorem dX11_twoWires_104 : decode cX11_twoWires 104 = .ok (.lconst 1, 1) := by decide +kernel
theorem dX11_twoWires_105 : decode cX11_twoWires 105 = .ok (.ldc2_w 91, 3) := by decide +kernel
theorem dX11_twoWires_108 : decode cX11_twoWires 108 = .ok (.invokestatic 49, 3) := by decide +kernel
theorem dX11_twoWires_111 : decode cX11_twoWires 111 = .ok (.ifCond .eq 7, 3) := by decide +kernel
theorem dX11_twoWires_114 : decode cX11_twoWires 114 = .ok (.iconst 0, 1) := by decide +kernel
theorem dX11_twoWires_115 : decode cX11_twoWires 115 = .ok (.goto 4, 3) := by decide +kernel
theorem dX11_twoWires_118 : decode cX11_twoWires 118 = .ok (.iconst 2, 1) := by decide +kernel
theorem dX11_twoWires_119 : decode cX11_twoWires 119 = .ok (.putfield 43, 3) := by decide +kernel
theorem dX11_twoWires_122 : decode cX11_twoWires 122 = .ok (.aload_n 0, 1) := by decide +kernel
theorem dX11_twoWires_123 : decode cX11_twoWires 123 = .ok (.getfield 43, 3) := by decide +kernel
theorem dX11_twoWires_126 : decode cX11_twoWires 126 = .ok (.ifCond .le 5, 3) := by decide +kernel
theorem dX11_twoWires_129 : decode cX11_twoWires 129 = .ok (.iconst 0, 1) := by decide +kernel
theorem dX11_twoWires_130 : decode cX11_twoWires 130 = .ok (.ireturn, 1) := by decide +kernel
theorem dX11_twoWires_131 : decode cX11_twoWires 131 = .ok (.new 104, 3) := by decide +kernel
theorem dX11_twoWires_134 : decode cX11_twoWires 134 = .ok (.dup, 1) := by decide +kernel
theorem dX11_twoWires_135 : decode cX11_twoWires 135 = .ok (.aload_n 0, 1) := by decide +kernel
theorem dX11_twoWires_136 : decode cX11_twoWires 136 = .ok (.iload 7, 2) := by decide +kernel
theorem dX11_twoWires_138 : decode cX11_twoWires 138 = .ok (.invokespecial 106, 3) := by decide +kernel
theorem dX11_twoWires_141 : decode cX11_twoWires 141 = .ok (.astore 10, 2) := by decide +kernel
theorem dX11_twoWires_143 : decode cX11_twoWires 143 = .ok (.aload 10, 2) := by decide +kernel
theorem dX11_twoWires_145 : decode cX11_twoWires 145 = .ok (.getfield 109, 3) := by decide +kernel
theorem dX11_twoWires_148 : decode cX11_twoWires 148 = .ok (.iload_n 1, 1) := by decide +kernel
theorem dX11_twoWires_149 : decode cX11_twoWires 149 = .ok (.iconst 1, 1) := by decide +kernel
theorem dX11_twoWires_150 : decode cX11_twoWires 150 = .ok (.bastore, 1) := by decide +kernel
theorem dX11_twoWires_151 : decode cX11_twoWires 151 = .ok (.aload 10, 2) := by decide +kernel
theorem dX11_twoWires_153 : decode cX11_twoWires 153 = .ok (.getfield 109, 3) := by decide +kernel
theorem dX11_twoWires_156 : decode cX11_twoWires 156 = .ok (.iload_n 2, 1) := by decide +kernel
theorem dX11_twoWires_157 : decode cX11_twoWires 157 = .ok (.iconst 1, 1) := by decide +kernel
theorem dX11_twoWires_158 : decode cX11_twoWires 158 = .ok (.bastore, 1) := by decide +kernel
theorem dX11_twoWires_159 : decode cX11_twoWires 159 = .ok (.aload 10, 2) := by decide +kernel
theorem dX11_twoWires_161 : decode cX11_twoWires 161 = .ok (.iload_n 2, 1) := by decide +kernel
theorem dX11_twoWires_162 : decode cX11_twoWires 162 = .ok (.iconst 0, 1) := by decide +kernel
theorem dX11_twoWires_163 : decode cX11_twoWires 163 = .ok (.iconst 0, 1) := by decide +kernel
theorem dX11_twoWires_164 : decode cX11_twoWires 164 = .ok (.invokevirtual 112, 3) := by decide +kernel
theorem dX11_twoWires_167 : decode cX11_twoWires 167 = .ok (.iconst 3, 1) := by decide +kernel
theorem dX11_twoWires_168 : decode cX11_twoWires 168 = .ok (.newarray .int, 2) := by decide +kernel
theorem dX11_twoWires_170 : decode cX11_twoWires 170 = .ok (.dup, 1) := by decide +kernel
theorem dX11_twoWires_171 : decode cX11_twoWires 171 = .ok (.iconst 0, 1) := by decide +kernel
theorem dX11_twoWires_172 : decode cX11_twoWires 172 = .ok (.iconst 2, 1) := by decide +kernel
theorem dX11_twoWires_173 : decode cX11_twoWires 173 = .ok (.iload_n 3, 1) := by decide +kernel
theorem dX11_twoWires_174 : decode cX11_twoWires 174 = .ok (.imul, 1) := by decide +kernel
theorem dX11_twoWires_175 : decode cX11_twoWires 175 = .ok (.iload 4, 2) := by decide +kernel
theorem dX11_twoWires_177 : decode cX11_twoWires 177 = .ok (.ifCond .eq 7, 3) := by decide +kernel
theorem dX11_twoWires_180 : decode cX11_twoWires 180 = .ok (.iconst 1, 1) := by decide +kernel
theorem dX11_twoWires_181 : decode cX11_twoWires 181 = .ok (.goto 4, 3) := by decide +kernel
theorem dX11_twoWires_184 : decode cX11_twoWires 184 = .ok (.iconst 0, 1) := by decide +kernel
theorem dX11_twoWires_185 : decode cX11_twoWires 185 = .ok (.iadd, 1) := by decide +kernel
theorem dX11_twoWires_186 : decode cX11_twoWires 186 = .ok (.iastore, 1) := by decide +kernel
theorem dX11_twoWires_187 : decode cX11_twoWires 187 = .ok (.dup, 1) := by decide +kernel
theorem dX11_twoWires_188 : decode cX11_twoWires 188 = .ok (.iconst 1, 1) := by decide +kernel
theorem dX11_twoWires_189 : decode cX11_twoWires 189 = .ok (.iload 5, 2) := by decide +kernel
theorem dX11_twoWires_191 : decode cX11_twoWires 191 = .ok (.iastore, 1) := by decide +kernel
theorem dX11_twoWires_192 : decode cX11_twoWires 192 = .ok (.dup, 1) := by decide +kernel
theorem dX11_twoWires_193 : decode cX11_twoWires 193 = .ok (.iconst 2, 1) := by decide +kernel
theorem dX11_twoWires_194 : decode cX11_twoWires 194 = .ok (.iload 6, 2) := by decide +kernel
theorem dX11_twoWires_196 : decode cX11_twoWires 196 = .ok (.iastore, 1) := by decide +kernel
theorem dX11_twoWires_197 : decode cX11_twoWires 197 = .ok (.astore 11, 2) := by decide +kernel
theorem dX11_twoWires_199 : decode cX11_twoWires 199 = .ok (.iconst 0, 1) := by decide +kernel
theorem dX11_twoWires_200 : decode cX11_twoWires 200 = .ok (.istore 12, 2) := by decide +kernel
theorem dX11_twoWires_202 : decode cX11_twoWires 202 = .ok (.iload 12, 2) := by decide +kernel
theorem dX11_twoWires_204 : decode cX11_twoWires 204 = .ok (.bipush 27, 2) := by decide +kernel
theorem dX11_twoWires_206 : decode cX11_twoWires 206 = .ok (.if_icmp .ge 126, 3) := by decide +kernel
theorem dX11_twoWires_209 : decode cX11_twoWires 209 = .ok (.iload 8, 2) := by decide +kernel
theorem dX11_twoWires_211 : decode cX11_twoWires 211 = .ok (.iconst 2, 1) := by decide +kernel
theorem dX11_twoWires_212 : decode cX11_twoWires 212 = .ok (.iload 8, 2) := by decide +kernel
theorem dX11_twoWires_214 : decode cX11_twoWires 214 = .ok (.imul, 1) := by decide +kernel
theorem dX11_twoWires_215 : decode cX11_twoWires 215 = .ok (.iload 12, 2) := by decide +kernel
theorem dX11_twoWires_217 : decode cX11_twoWires 217 = .ok (.imul, 1) := by decide +kernel
theorem dX11_twoWires_218 : decode cX11_twoWires 218 = .ok (.iadd, 1) := by decide +kernel
theorem dX11_twoWires_219 : decode cX11_twoWires 219 = .ok (.istore 13, 2) := by decide +kernel
theorem dX11_twoWires_221 : decode cX11_twoWires 221 = .ok (.iload 12, 2) := by decide +kernel
theorem dX11_twoWires_223 : decode cX11_twoWires 223 = .ok (.bipush 9, 2) := by decide +kernel
theorem dX11_twoWires_225 : decode cX11_twoWires 225 = .ok (.idiv, 1) := by decide +kernel
theorem dX11_twoWires_226 : decode cX11_twoWires 226 = .ok (.ifCond .ne 10, 3) := by decide +kernel
theorem dX11_twoWires_229 : decode cX11_twoWires 229 = .ok (.aload_n 0, 1) := by decide +kernel
theorem dX11_twoWires_230 : decode cX11_twoWires 230 = .ok (.getfield 18, 3) := by decide +kernel
theorem dX11_twoWires_233 : decode cX11_twoWires 233 = .ok (.goto 7, 3) := by decide +kernel
theorem dX11_twoWires_236 : decode cX11_twoWires 236 = .ok (.aload_n 0, 1) := by decide +kernel
theorem dX11_twoWires_237 : decode cX11_twoWires 237 = .ok (.getfield 22, 3) := by decide +kernel
theorem dX11_twoWires_240 : decode cX11_twoWires 240 = .ok (.istore 14, 2) := by decide +kernel
theorem dX11_twoWires_242 : decode cX11_twoWires 242 = .ok (.iload 12, 2) := by decide +kernel
theorem dX11_twoWires_244 : decode cX11_twoWires 244 = .ok (.bipush 9, 2) := by decide +kernel
theorem dX11_twoWires_246 : decode cX11_twoWires 246 = .ok (.irem, 1) := by decide +kernel
theorem dX11_twoWires_247 : decode cX11_twoWires 247 = .ok (.bipush 8, 2) := by decide +kernel
theorem dX11_twoWires_249 : decode cX11_twoWires 249 = .ok (.if_icmp .ne 16, 3) := by decide +kernel
theorem dX11_twoWires_252 : decode cX11_twoWires 252 = .ok (.iload 14, 2) := by decide +kernel
theorem dX11_twoWires_254 : decode cX11_twoWires 254 = .ok (.ifCond .ne 7, 3) := by decide +kernel
theorem dX11_twoWires_257 : decode cX11_twoWires 257 = .ok (.iconst 1, 1) := by decide +kernel
theorem dX11_twoWires_258 : decode cX11_twoWires 258 = .ok (.goto 35, 3) := by decide +kernel
theorem dX11_twoWires_261 : decode cX11_twoWires 261 = .ok (.iconst 0, 1) := by decide +kernel
theorem dX11_twoWires_262 : decode cX11_twoWires 262 = .ok (.goto 31, 3) := by decide +kernel
theorem dX11_twoWires_265 : decode cX11_twoWires 265 = .ok (.aload 11, 2) := by decide +kernel
theorem dX11_twoWires_267 : decode cX11_twoWires 267 = .ok (.iload 12, 2) := by decide +kernel
theorem dX11_twoWires_269 : decode cX11_twoWires 269 = .ok (.bipush 9, 2) := by decide +kernel
theorem dX11_twoWires_271 : decode cX11_twoWires 271 = .ok (.idiv, 1) := by decide +kernel
theorem dX11_twoWires_272 : decode cX11_twoWires 272 = .ok (.iaload, 1) := by decide +kernel
theorem dX11_twoWires_273 : decode cX11_twoWires 273 = .ok (.bipush 7, 2) := by decide +kernel
theorem dX11_twoWires_275 : decode cX11_twoWires 275 = .ok (.iload 12, 2) := by decide +kernel
theorem dX11_twoWires_277 : decode cX11_twoWires 277 = .ok (.bipush 9, 2) := by decide +kernel
theorem dX11_twoWires_279 : decode cX11_twoWires 279 = .ok (.irem, 1) := by decide +kernel
theorem dX11_twoWires_280 : decode cX11_twoWires 280 = .ok (.isub, 1) := by decide +kernel
theorem dX11_twoWires_281 : decode cX11_twoWires 281 = .ok (.ishr, 1) := by decide +kernel
theorem dX11_twoWires_282 : decode cX11_twoWires 282 = .ok (.iconst 1, 1) := by decide +kernel
theorem dX11_twoWires_283 : decode cX11_twoWires 283 = .ok (.iand, 1) := by decide +kernel
theorem dX11_twoWires_284 : decode cX11_twoWires 284 = .ok (.iconst 1, 1) := by decide +kernel
theorem dX11_twoWires_285 : decode cX11_twoWires 285 = .ok (.if_icmp .ne 7, 3) := by decide +kernel
theorem dX11_twoWires_288 : decode cX11_twoWires 288 = .ok (.iconst 1, 1) := by decide +kernel
theorem dX11_twoWires_289 : decode cX11_twoWires 289 = .ok (.goto 4, 3) := by decide +kernel
theorem dX11_twoWires_292 : decode cX11_twoWires 292 = .ok (.iconst 0, 1) := by decide +kernel
theorem dX11_twoWires_293 : decode cX11_twoWires 293 = .ok (.istore 15, 2) := by decide +kernel
theorem dX11_twoWires_295 : decode cX11_twoWires 295 = .ok (.aload 10, 2) := by decide +kernel
theorem dX11_twoWires_297 : decode cX11_twoWires 297 = .ok (.iload_n 1, 1) := by decide +kernel
theorem dX11_twoWires_298 : decode cX11_twoWires 298 = .ok (.iload 13, 2) := by decide +kernel
theorem dX11_twoWires_300 : decode cX11_twoWires 300 = .ok (.iconst 0, 1) := by decide +kernel
theorem dX11_twoWires_301 : decode cX11_twoWires 301 = .ok (.invokevirtual 112, 3) := by decide +kernel
theorem dX11_twoWires_304 : decode cX11_twoWires 304 = .ok (.aload 10, 2) := by decide +kernel
theorem dX11_twoWires_306 : decode cX11_twoWires 306 = .ok (.iload_n 2, 1) := by decide +kernel
theorem dX11_twoWires_307 : decode cX11_twoWires 307 = .ok (.iload 13, 2) := by decide +kernel
theorem dX11_twoWires_309 : decode cX11_twoWires 309 = .ok (.iload 15, 2) := by decide +kernel
theorem dX11_twoWires_311 : decode cX11_twoWires 311 = .ok (.invokevirtual 112, 3) := by decide +kernel
theorem dX11_twoWires_314 : decode cX11_twoWires 314 = .ok (.aload 10, 2) := by decide +kernel
theorem dX11_twoWires_316 : decode cX11_twoWires 316 = .ok (.iload_n 1, 1) := by decide +kernel
theorem dX11_twoWires_317 : decode cX11_twoWires 317 = .ok (.iload 13, 2) := by decide +kernel
theorem dX11_twoWires_319 : decode cX11_twoWires 319 = .ok (.iload 8, 2) := by decide +kernel
theorem dX11_twoWires_321 : decode cX11_twoWires 321 = .ok (.iadd, 1) := by decide +kernel
theorem dX11_twoWires_322 : decode cX11_twoWires 322 = .ok (.iconst 1, 1) := by decide +kernel
theorem dX11_twoWires_323 : decode cX11_twoWires 323 = .ok (.invokevirtual 112, 3) := by decide +kernel
theorem dX11_twoWires_326 : decode cX11_twoWires 326 = .ok (.iinc 12 1, 3) := by decide +kernel
theorem dX11_twoWires_329 : decode cX11_twoWires 329 = .ok (.goto (-127), 3) := by decide +kernel
theorem dX11_twoWires_332 : decode cX11_twoWires 332 = .ok (.aload 10, 2) := by decide +kernel
theorem dX11_twoWires_334 : decode cX11_twoWires 334 = .ok (.iload_n 1, 1) := by decide +kernel
theorem dX11_twoWires_335 : decode cX11_twoWires 335 = .ok (.bipush 55, 2) := by decide +kernel
theorem dX11_twoWires_337 : decode cX11_twoWires 337 = .ok (.iload 8, 2) := by decide +kernel
theorem dX11_twoWires_339 : decode cX11_twoWires 339 = .ok (.imul, 1) := by decide +kernel
theorem dX11_twoWires_340 : decode cX11_twoWires 340 = .ok (.iconst 0, 1) := by decide +kernel
theorem dX11_twoWires_341 : decode cX11_twoWires 341 = .ok (.invokevirtual 112, 3) := by decide +kernel
theorem dX11_twoWires_344 : decode cX11_twoWires 344 = .ok (.aload 10, 2) := by decide +kernel
theorem dX11_twoWires_346 : decode cX11_twoWires 346 = .ok (.iload_n 2, 1) := by decide +kernel
theorem dX11_twoWires_347 : decode cX11_twoWires 347 = .ok (.bipush 55, 2) := by decide +kernel
theorem dX11_twoWires_349 : decode cX11_twoWires 349 = .ok (.iload 8, 2) := by decide +kernel
theorem dX11_twoWires_351 : decode cX11_twoWires 351 = .ok (.imul, 1) := by decide +kernel
theorem dX11_twoWires_352 : decode cX11_twoWires 352 = .ok (.iconst 0, 1) := by decide +kernel
theorem dX11_twoWires_353 : decode cX11_twoWires 353 = .ok (.invokevirtual 112, 3) := by decide +kernel
theorem dX11_twoWires_356 : decode cX11_twoWires 356 = .ok (.aload 10, 2) := by decide +kernel
theorem dX11_twoWires_358 : decode cX11_twoWires 358 = .ok (.iload_n 1, 1) := by decide +kernel
theorem dX11_twoWires_359 : decode cX11_twoWires 359 = .ok (.bipush 56, 2) := by decide +kernel
theorem dX11_twoWires_361 : decode cX11_twoWires 361 = .ok (.iload 8, 2) := by decide +kernel
theorem dX11_twoWires_363 : decode cX11_twoWires 363 = .ok (.imul, 1) := by decide +kernel
theorem dX11_twoWires_364 : decode cX11_twoWires 364 = .ok (.iconst 1, 1) := by decide +kernel
theorem dX11_twoWires_365 : decode cX11_twoWires 365 = .ok (.invokevirtual 112, 3) := by decide +kernel
theorem dX11_twoWires_368 : decode cX11_twoWires 368 = .ok (.aload 10, 2) := by decide +kernel
theorem dX11_twoWires_370 : decode cX11_twoWires 370 = .ok (.iload_n 2, 1) := by decide +kernel
theorem dX11_twoWires_371 : decode cX11_twoWires 371 = .ok (.bipush 57, 2) := by decide +kernel
theorem dX11_twoWires_373 : decode cX11_twoWires 373 = .ok (.iload 8, 2) := by decide +kernel
theorem dX11_twoWires_375 : decode cX11_twoWires 375 = .ok (.imul, 1) := by decide +kernel
theorem dX11_twoWires_376 : decode cX11_twoWires 376 = .ok (.iconst 1, 1) := by decide +kernel
theorem dX11_twoWires_377 : decode cX11_twoWires 377 = .ok (.invokevirtual 112, 3) := by decide +kernel
theorem dX11_twoWires_380 : decode cX11_twoWires 380 = .ok (.aload 10, 2) := by decide +kernel
theorem dX11_twoWires_382 : decode cX11_twoWires 382 = .ok (.bipush 57, 2) := by decide +kernel
theorem dX11_twoWires_384 : decode cX11_twoWires 384 = .ok (.iload 8, 2) := by decide +kernel
theorem dX11_twoWires_386 : decode cX11_twoWires 386 = .ok (.imul, 1) := by decide +kernel
theorem dX11_twoWires_387 : decode cX11_twoWires 387 = .ok (.invokevirtual 121, 3) := by decide +kernel
theorem dX11_twoWires_390 : decode cX11_twoWires 390 = .ok (.ireturn, 1) := by decide +kernel
theorem dX11_fourWires_0 : decode cX11_fourWires 0 = .ok (.aload_n 0, 1) := by decide +kernel
theorem dX11_fourWires_1 : decode cX11_fourWires 1 = .ok (.iload_n 1, 1) := by decide +kernel
theorem dX11_fourWires_2 : decode cX11_fourWires 2 = .ok (.invokestatic 53, 3) := by decide +kernel
theorem dX11_fourWires_5 : decode cX11_fourWires 5 = .ok (.ifCond .eq 21, 3) := by decide +kernel
theorem dX11_fourWires_8 : decode cX11_fourWires 8 = .ok (.iload_n 2, 1) := by decide +kernel
theorem dX11_fourWires_9 : decode cX11_fourWires 9 = .ok (.invokestatic 53, 3) := by decide +kernel
theorem dX11_fourWires_12 : decode cX11_fourWires 12 = .ok (.ifCond .eq 14, 3) := by decide +kernel
theorem dX11_fourWires_15 : decode cX11_fourWires 15 = .ok (.iload_n 3, 1) := by decide +kernel
theorem dX11_fourWires_16 : decode cX11_fourWires 16 = .ok (.invokestatic 53, 3) := by decide +kernel
theorem dX11_fourWires_19 : decode cX11_fourWires 19 = .ok (.ifCond .eq 7, 3) := by decide +kernel
theorem dX11_fourWires_22 : decode cX11_fourWires 22 = .ok (.iconst 0, 1) := by decide +kernel
theorem dX11_fourWires_23 : decode cX11_fourWires 23 = .ok (.goto 4, 3) := by decide +kernel
theorem dX11_fourWires_26 : decode cX11_fourWires 26 = .ok (.iconst 1, 1) := by decide +kernel
theorem dX11_fourWires_27 : decode cX11_fourWires 27 = .ok (.putfield 43, 3) := by decide +kernel
theorem dX11_fourWires_30 : decode cX11_fourWires 30 = .ok (.aload_n 0, 1) := by decide +kernel
theorem dX11_fourWires_31 : decode cX11_fourWires 31 = .ok (.getfield 43, 3) := by decide +kernel
theorem dX11_fourWires_34 : decode cX11_fourWires 34 = .ok (.ifCond .le 5, 3) := by decide +kernel
theorem dX11_fourWires_37 : decode cX11_fourWires 37 = .ok (.iconst 0, 1) := by decide +kernel
theorem dX11_fourWires_38 : decode cX11_fourWires 38 = .ok (.ireturn, 1) := by decide +kernel
theorem dX11_fourWires_39 : decode cX11_fourWires 39 = .ok (.iload_n 1, 1) := by decide +kernel
theorem dX11_fourWires_40 : decode cX11_fourWires 40 = .ok (.iload_n 2, 1) := by decide +kernel
theorem dX11_fourWires_41 : decode cX11_fourWires 41 = .ok (.if_icmp .eq 17, 3) := by decide +kernel
theorem dX11_fourWires_44 : decode cX11_fourWires 44 = .ok (.iload_n 1, 1) := by decide +kernel
theorem dX11_fourWires_45 : decode cX11_fourWires 45 = .ok (.iload_n 3, 1) := by decide +kernel
theorem dX11_fourWires_46 : decode cX11_fourWires 46 = .ok (.if_icmp .eq 12, 3) := by decide +kernel
theorem dX11_fourWires_49 : decode cX11_fourWires 49 = .ok (.iload_n 2, 1) := by decide +kernel
theorem dX11_fourWires_50 : decode cX11_fourWires 50 = .ok (.iload_n 3, 1) := by decide +kernel
theorem dX11_fourWires_51 : decode cX11_fourWires 51 = .ok (.if_icmp .eq 7, 3) := by decide +kernel
theorem dX11_fourWires_54 : decode cX11_fourWires 54 = .ok (.iconst 1, 1) := by decide +kernel
theorem dX11_fourWires_55 : decode cX11_fourWires 55 = .ok (.goto 4, 3) := by decide +kernel
theorem dX11_fourWires_58 : decode cX11_fourWires 58 = .ok (.iconst 0, 1) := by decide +kernel
theorem dX11_fourWires_59 : decode cX11_fourWires 59 = .ok (.istore 8, 2) := by decide +kernel
theorem dX11_fourWires_61 : decode cX11_fourWires 61 = .ok (.iload 8, 2) := by decide +kernel
theorem dX11_fourWires_63 : decode cX11_fourWires 63 = .ok (.ifCond .eq 59, 3) := by decide +kernel
theorem dX11_fourWires_66 : decode cX11_fourWires 66 = .ok (.iload 4, 2) := by decide +kernel
theorem dX11_fourWires_68 : decode cX11_fourWires 68 = .ok (.i2l, 1) := by decide +kernel
theorem dX11_fourWires_69 : decode cX11_fourWires 69 = .ok (.lconst 0, 1) := by decide +kernel
theorem dX11_fourWires_70 : decode cX11_fourWires 70 = .ok (.ldc2_w 96, 3) := by decide +kernel
theorem dX11_fourWires_73 : decode cX11_fourWires 73 = .ok (.invokestatic 49, 3) := by decide +kernel
theorem dX11_fourWires_76 : decode cX11_fourWires 76 = .ok (.ifCond .eq 46, 3) := by decide +kernel
theorem dX11_fourWires_79 : decode cX11_fourWires 79 = .ok (.iload 5, 2) := by decide +kernel
theorem dX11_fourWires_81 : decode cX11_fourWires 81 = .ok (.i2l, 1) := by decide +kernel
theorem dX11_fourWires_82 : decode cX11_fourWires 82 = .ok (.lconst 0, 1) := by decide +kernel
theorem dX11_fourWires_83 : decode cX11_fourWires 83 = .ok (.ldc2_w 60, 3) := by decide +kernel
theorem dX11_fourWires_86 : decode cX11_fourWires 86 = .ok (.invokestatic 49, 3) := by decide +kernel
theorem dX11_fourWires_89 : decode cX11_fourWires 89 = .ok (.ifCond .eq 33, 3) := by decide +kernel
theorem dX11_fourWires_92 : decode cX11_fourWires 92 = .ok (.iload 6, 2) := by decide +kernel
theorem dX11_fourWires_94 : decode cX11_fourWires 94 = .ok (.i2l, 1) := by decide +kernel
theorem dX11_fourWires_95 : decode cX11_fourWires 95 = .ok (.lconst 1, 1) := by decide +kernel
theorem dX11_fourWires_96 : decode cX11_fourWires 96 = .ok (.ldc2_w 91, 3) := by decide +kernel
theorem dX11_fourWires_99 : decode cX11_fourWires 99 = .ok (.invokestatic 49, 3) := by decide +kernel
theorem dX11_fourWires_102 : decode cX11_fourWires 102 = .ok (.ifCond .eq 20, 3) := by decide +kernel
theorem dX11_fourWires_105 : decode cX11_fourWires 105 = .ok (.iload 7, 2) := by decide +kernel
theorem dX11_fourWires_107 : decode cX11_fourWires 107 = .ok (.i2l, 1) := by decide +kernel
theorem dX11_fourWires_108 : decode cX11_fourWires 108 = .ok (.lconst 0, 1) := by decide +kernel
theorem dX11_fourWires_109 : decode cX11_fourWires 109 = .ok (.ldc2_w 47, 3) := by decide +kernel
theorem dX11_fourWires_112 : decode cX11_fourWires 112 = .ok (.invokestatic 49, 3) := by decide +kernel
theorem dX11_fourWires_115 : decode cX11_fourWires 115 = .ok (.ifCond .eq 7, 3) := by decide +kernel
theorem dX11_fourWires_118 : decode cX11_fourWires 118 = .ok (.iconst 1, 1) := by decide +kernel
theorem dX11_fourWires_119 : decode cX11_fourWires 119 = .ok (.goto 4, 3) := by decide +kernel
theorem dX11_fourWires_122 : decode cX11_fourWires 122 = .ok (.iconst 0, 1) := by decide +kernel
theorem dX11_fourWires_123 : decode cX11_fourWires 123 = .ok (.istore 9, 2) := by decide +kernel
theorem dX11_fourWires_125 : decode cX11_fourWires 125 = .ok (.aload_n 0, 1) := by decide +kernel
theorem dX11_fourWires_126 : decode cX11_fourWires 126 = .ok (.iload 9, 2) := by decide +kernel
theorem dX11_fourWires_128 : decode cX11_fourWires 128 = .ok (.ifCond .eq 7, 3) := by decide +kernel
theorem dX11_fourWires_131 : decode cX11_fourWires 131 = .ok (.iconst 0, 1) := by decide +kernel
theorem dX11_fourWires_132 : decode cX11_fourWires 132 = .ok (.goto 4, 3) := by decide +kernel
theorem dX11_fourWires_135 : decode cX11_fourWires 135 = .ok (.iconst 2, 1) := by decide +kernel
theorem dX11_fourWires_136 : decode cX11_fourWires 136 = .ok (.putfield 43, 3) := by decide +kernel
theorem dX11_fourWires_139 : decode cX11_fourWires 139 = .ok (.aload_n 0, 1) := by decide +kernel
theorem dX11_fourWires_140 : decode cX11_fourWires 140 = .ok (.getfield 43, 3) := by decide +kernel
theorem dX11_fourWires_143 : decode cX11_fourWires 143 = .ok (.ifCond .le 5, 3) := by decide +kernel
theorem dX11_fourWires_146 : decode cX11_fourWires 146 = .ok (.iconst 0, 1) := by decide +kernel
theorem dX11_fourWires_147 : decode cX11_fourWires 147 = .ok (.ireturn, 1) := by decide +kernel
theorem dX11_fourWires_148 : decode cX11_fourWires 148 = .ok (.new 104, 3) := by decide +kernel
theorem dX11_fourWires_151 : decode cX11_fourWires 151 = .ok (.dup, 1) := by decide +kernel
theorem dX11_fourWires_152 : decode cX11_fourWires 152 = .ok (.aload_n 0, 1) := by decide +kernel
theorem dX11_fourWires_153 : decode cX11_fourWires 153 = .ok (.iload 5, 2) := by decide +kernel
theorem dX11_fourWires_155 : decode cX11_fourWires 155 = .ok (.invokespecial 106, 3) := by decide +kernel
theorem dX11_fourWires_158 : decode cX11_fourWires 158 = .ok (.astore 10, 2) := by decide +kernel
theorem dX11_fourWires_160 : decode cX11_fourWires 160 = .ok (.iload 7, 2) := by decide +kernel
theorem dX11_fourWires_162 : decode cX11_fourWires 162 = .ok (.iconst 2, 1) := by decide +kernel
theorem dX11_fourWires_163 : decode cX11_fourWires 163 = .ok (.if_icmp .lt 7, 3) := by decide +kernel
theorem dX11_fourWires_166 : decode cX11_fourWires 166 = .ok (.iconst 1, 1) := by decide +kernel
theorem dX11_fourWires_167 : decode cX11_fourWires 167 = .ok (.goto 4, 3) := by decide +kernel
theorem dX11_fourWires_170 : decode cX11_fourWires 170 = .ok (.iconst 0, 1) := by decide +kernel
theorem dX11_fourWires_171 : decode cX11_fourWires 171 = .ok (.istore 11, 2) := by decide +kernel
theorem dX11_fourWires_173 : decode cX11_fourWires 173 = .ok (.aload 10, 2) := by decide +kernel
theorem dX11_fourWires_175 : decode cX11_fourWires 175 = .ok (.getfield 109, 3) := by decide +kernel
theorem dX11_fourWires_178 : decode cX11_fourWires 178 = .ok (.iload_n 3, 1) := by decide +kernel
theorem dX11_fourWires_179 : decode cX11_fourWires 179 = .ok (.iconst 1, 1) := by decide +kernel
theorem dX11_fourWires_180 : decode cX11_fourWires 180 = .ok (.bastore, 1) := by decide +kernel
theorem dX11_fourWires_181 : decode cX11_fourWires 181 = .ok (.aload 10, 2) := by decide +kernel
theorem dX11_fourWires_183 : decode cX11_fourWires 183 = .ok (.getfield 109, 3) := by decide +kernel
theorem dX11_fourWires_186 : decode cX11_fourWires 186 = .ok (.iload_n 1, 1) := by decide +kernel
theorem dX11_fourWires_187 : decode cX11_fourWires 187 = .ok (.iload 11, 2) := by decide +kernel
theorem dX11_fourWires_189 : decode cX11_fourWires 189 = .ok (.bastore, 1) := by decide +kernel
theorem dX11_fourWires_190 : decode cX11_fourWires 190 = .ok (.aload 10, 2) := by decide +kernel
theorem dX11_fourWires_192 : decode cX11_fourWires 192 = .ok (.iload_n 3, 1) := by decide +kernel
theorem dX11_fourWires_193 : decode cX11_fourWires 193 = .ok (.iconst 0, 1) := by decide +kernel
theorem dX11_fourWires_194 : decode cX11_fourWires 194 = .ok (.iconst 0, 1) := by decide +kernel
theorem dX11_fourWires_195 : decode cX11_fourWires 195 = .ok (.invokevirtual 112, 3) := by decide +kernel
theorem dX11_fourWires_198 : decode cX11_fourWires 198 = .ok (.iconst 0, 1) := by decide +kernel
theorem dX11_fourWires_199 : decode cX11_fourWires 199 = .ok (.istore 12, 2) := by decide +kernel
theorem dX11_fourWires_201 : decode cX11_fourWires 201 = .ok (.iload 12, 2) := by decide +kernel
theorem dX11_fourWires_203 : decode cX11_fourWires 203 = .ok (.bipush 8, 2) := by decide +kernel
theorem dX11_fourWires_205 : decode cX11_fourWires 205 = .ok (.if_icmp .ge 92, 3) := by decide +kernel
theorem dX11_fourWires_208 : decode cX11_fourWires 208 = .ok (.iload 4, 2) := by decide +kernel
theorem dX11_fourWires_210 : decode cX11_fourWires 210 = .ok (.bipush 7, 2) := by decide +kernel
theorem dX11_fourWires_212 : decode cX11_fourWires 212 = .ok (.iload 12, 2) := by decide +kernel
theorem dX11_fourWires_214 : decode cX11_fourWires 214 = .ok (.isub, 1) := by decide +kernel
theorem dX11_fourWires_215 : decode cX11_fourWires 215 = .ok (.ishr, 1) := by decide +kernel
theorem dX11_fourWires_216 : decode cX11_fourWires 216 = .ok (.iconst 1, 1) := by decide +kernel
theorem dX11_fourWires_217 : decode cX11_fourWires 217 = .ok (.iand, 1) := by decide +kernel
theorem dX11_fourWires_218 : decode cX11_fourWires 218 = .ok (.iconst 1, 1) := by decide +kernel
theorem dX11_fourWires_219 : decode cX11_fourWires 219 = .ok (.if_icmp .ne 7, 3) := by decide +kernel
theorem dX11_fourWires_222 : decode cX11_fourWires 222 = .ok (.iconst 1, 1) := by decide +kernel
theorem dX11_fourWires_223 : decode cX11_fourWires 223 = .ok (.goto 4, 3) := by decide +kernel
theorem dX11_fourWires_226 : decode cX11_fourWires 226 = .ok (.iconst 0, 1) := by decide +kernel
theorem dX11_fourWires_227 : decode cX11_fourWires 227 = .ok (.istore 13, 2) := by decide +kernel
theorem dX11_fourWires_229 : decode cX11_fourWires 229 = .ok (.aload 10, 2) := by decide +kernel
theorem dX11_fourWires_231 : decode cX11_fourWires 231 = .ok (.iload_n 2, 1) := by decide +kernel
theorem dX11_fourWires_232 : decode cX11_fourWires 232 = .ok (.iconst 2, 1) := by decide +kernel
theorem dX11_fourWires_233 : decode cX11_fourWires 233 = .ok (.iload 12, 2) := by decide +kernel
theorem dX11_fourWires_235 : decode cX11_fourWires 235 = .ok (.imul, 1) := by decide +kernel
theorem dX11_fourWires_236 : decode cX11_fourWires 236 = .ok (.iload 7, 2) := by decide +kernel
theorem dX11_fourWires_238 : decode cX11_fourWires 238 = .ok (.iconst 2, 1) := by decide +kernel
theorem dX11_fourWires_239 : decode cX11_fourWires 239 = .ok (.irem, 1) := by decide +kernel
theorem dX11_fourWires_240 : decode cX11_fourWires 240 = .ok (.iadd, 1) := by decide +kernel
theorem dX11_fourWires_241 : decode cX11_fourWires 241 = .ok (.iload 6, 2) := by decide +kernel
theorem dX11_fourWires_243 : decode cX11_fourWires 243 = .ok (.imul, 1) := by decide +kernel
theorem dX11_fourWires_244 : decode cX11_fourWires 244 = .ok (.iload 13, 2) := by decide +kernel
theorem dX11_fourWires_246 : decode cX11_fourWires 246 = .ok (.invokevirtual 112, 3) := by decide +kernel
theorem dX11_fourWires_249 : decode cX11_fourWires 249 = .ok (.aload 10, 2) := by decide +kernel
theorem dX11_fourWires_251 : decode cX11_fourWires 251 = .ok (.iload_n 1, 1) := by decide +kernel
theorem dX11_fourWires_252 : decode cX11_fourWires 252 = .ok (.iconst 2, 1) := by decide +kernel
theorem dX11_fourWires_253 : decode cX11_fourWires 253 = .ok (.iload 12, 2) := by decide +kernel
theorem dX11_fourWires_255 : decode cX11_fourWires 255 = .ok (.imul, 1) := by decide +kernel
theorem dX11_fourWires_256 : decode cX11_fourWires 256 = .ok (.iconst 1, 1) := by decide +kernel
theorem dX11_fourWires_257 : decode cX11_fourWires 257 = .ok (.iadd, 1) := by decide +kernel
theorem dX11_fourWires_258 : decode cX11_fourWires 258 = .ok (.iload 6, 2) := by decide +kernel
theorem dX11_fourWires_260 : decode cX11_fourWires 260 = .ok (.imul, 1) := by decide +kernel
theorem dX11_fourWires_261 : decode cX11_fourWires 261 = .ok (.iload 11, 2) := by decide +kernel
theorem dX11_fourWires_263 : decode cX11_fourWires 263 = .ok (.ifCond .ne 7, 3) := by decide +kernel
theorem dX11_fourWires_266 : decode cX11_fourWires 266 = .ok (.iconst 1, 1) := by decide +kernel
theorem dX11_fourWires_267 : decode cX11_fourWires 267 = .ok (.goto 4, 3) := by decide +kernel
theorem dX11_fourWires_270 : decode cX11_fourWires 270 = .ok (.iconst 0, 1) := by decide +kernel
theorem dX11_fourWires_271 : decode cX11_fourWires 271 = .ok (.invokevirtual 112, 3) := by decide +kernel
theorem dX11_fourWires_274 : decode cX11_fourWires 274 = .ok (.aload 10, 2) := by decide +kernel
theorem dX11_fourWires_276 : decode cX11_fourWires 276 = .ok (.iload_n 1, 1) := by decide +kernel
theorem dX11_fourWires_277 : decode cX11_fourWires 277 = .ok (.iconst 2, 1) := by decide +kernel
theorem dX11_fourWires_278 : decode cX11_fourWires 278 = .ok (.iload 12, 2) := by decide +kernel
theorem dX11_fourWires_280 : decode cX11_fourWires 280 = .ok (.imul, 1) := by decide +kernel
theorem dX11_fourWires_281 : decode cX11_fourWires 281 = .ok (.iconst 2, 1) := by decide +kernel
theorem dX11_fourWires_282 : decode cX11_fourWires 282 = .ok (.iadd, 1) := by decide +kernel
theorem dX11_fourWires_283 : decode cX11_fourWires 283 = .ok (.iload 6, 2) := by decide +kernel
theorem dX11_fourWires_285 : decode cX11_fourWires 285 = .ok (.imul, 1) := by decide +kernel
theorem dX11_fourWires_286 : decode cX11_fourWires 286 = .ok (.iload 11, 2) := by decide +kernel
theorem dX11_fourWires_288 : decode cX11_fourWires 288 = .ok (.invokevirtual 112, 3) := by decide +kernel
theorem dX11_fourWires_291 : decode cX11_fourWires 291 = .ok (.iinc 12 1, 3) := by decide +kernel
theorem dX11_fourWires_294 : decode cX11_fourWires 294 = .ok (.goto (-93), 3) := by decide +kernel
theorem dX11_fourWires_297 : decode cX11_fourWires 297 = .ok (.aload 10, 2) := by decide +kernel
theorem dX11_fourWires_299 : decode cX11_fourWires 299 = .ok (.iload_n 3, 1) := by decide +kernel
theorem dX11_fourWires_300 : decode cX11_fourWires 300 = .ok (.bipush 17, 2) := by decide +kernel
theorem dX11_fourWires_302 : decode cX11_fourWires 302 = .ok (.iload 6, 2) := by decide +kernel
theorem dX11_fourWires_304 : decode cX11_fourWires 304 = .ok (.imul, 1) := by decide +kernel
theorem dX11_fourWires_305 : decode cX11_fourWires 305 = .ok (.iconst 1, 1) := by decide +kernel
theorem dX11_fourWires_306 : decode cX11_fourWires 306 = .ok (.invokevirtual 112, 3) := by decide +kernel
theorem dX11_fourWires_309 : decode cX11_fourWires 309 = .ok (.aload 10, 2) := by decide +kernel
theorem dX11_fourWires_311 : decode cX11_fourWires 311 = .ok (.iload_n 2, 1) := by decide +kernel
theorem dX11_fourWires_312 : decode cX11_fourWires 312 = .ok (.bipush 17, 2) := by decide +kernel
theorem dX11_fourWires_314 : decode cX11_fourWires 314 = .ok (.iload 6, 2) := by decide +kernel
theorem dX11_fourWires_316 : decode cX11_fourWires 316 = .ok (.imul, 1) := by decide +kernel
theorem dX11_fourWires_317 : decode cX11_fourWires 317 = .ok (.iconst 0, 1) := by decide +kernel
theorem dX11_fourWires_318 : decode cX11_fourWires 318 = .ok (.invokevirtual 112, 3) := by decide +kernel
theorem dX11_fourWires_321 : decode cX11_fourWires 321 = .ok (.aload 10, 2) := by decide +kernel
theorem dX11_fourWires_323 : decode cX11_fourWires 323 = .ok (.bipush 17, 2) := by decide +kernel
theorem dX11_fourWires_325 : decode cX11_fourWires 325 = .ok (.iload 6, 2) := by decide +kernel
theorem dX11_fourWires_327 : decode cX11_fourWires 327 = .ok (.imul, 1) := by decide +kernel
theorem dX11_fourWires_328 : decode cX11_fourWires 328 = .ok (.invokevirtual 121, 3) := by decide +kernel
theorem dX11_fourWires_331 : decode cX11_fourWires 331 = .ok (.ireturn, 1) := by decide +kernel
theorem dX11_noCapture_0 : decode cX11_noCapture 0 = .ok (.aload_n 0, 1) := by decide +kernel
theorem dX11_noCapture_1 : decode cX11_noCapture 1 = .ok (.iload_n 1, 1) := by decide +kernel
theorem dX11_noCapture_2 : decode cX11_noCapture 2 = .ok (.i2l, 1) := by decide +kernel
theorem dX11_noCapture_3 : decode cX11_noCapture 3 = .ok (.lconst 0, 1) := by decide +kernel
theorem dX11_noCapture_4 : decode cX11_noCapture 4 = .ok (.lconst 1, 1) := by decide +kernel
theorem dX11_noCapture_5 : decode cX11_noCapture 5 = .ok (.invokestatic 49, 3) := by decide +kernel
theorem dX11_noCapture_8 : decode cX11_noCapture 8 = .ok (.ifCond .eq 7, 3) := by decide +kernel
theorem dX11_noCapture_11 : decode cX11_noCapture 11 = .ok (.iconst 0, 1) := by decide +kernel
theorem dX11_noCapture_12 : decode cX11_noCapture 12 = .ok (.goto 4, 3) := by decide +kernel
theorem dX11_noCapture_15 : decode cX11_noCapture 15 = .ok (.iconst 1, 1) := by decide +kernel
theorem dX11_noCapture_16 : decode cX11_noCapture 16 = .ok (.putfield 43, 3) := by decide +kernel
theorem dX11_noCapture_19 : decode cX11_noCapture 19 = .ok (.aload_n 0, 1) := by decide +kernel
theorem dX11_noCapture_20 : decode cX11_noCapture 20 = .ok (.getfield 43, 3) := by decide +kernel
theorem dX11_noCapture_23 : decode cX11_noCapture 23 = .ok (.ifCond .le 7, 3) := by decide +kernel
theorem dX11_noCapture_26 : decode cX11_noCapture 26 = .ok (.iconst 1, 1) := by decide +kernel
theorem dX11_noCapture_27 : decode cX11_noCapture 27 = .ok (.goto 4, 3) := by decide +kernel
theorem dX11_noCapture_30 : decode cX11_noCapture 30 = .ok (.iconst 0, 1) := by decide +kernel
theorem dX11_noCapture_31 : decode cX11_noCapture 31 = .ok (.ireturn, 1) := by decide +kernel
theorem dX11_noRow_0 : decode cX11_noRow 0 = .ok (.aload_n 0, 1) := by decide +kernel
theorem dX11_noRow_1 : decode cX11_noRow 1 = .ok (.iload_n 1, 1) := by decide +kernel
theorem dX11_noRow_2 : decode cX11_noRow 2 = .ok (.i2l, 1) := by decide +kernel
theorem dX11_noRow_3 : decode cX11_noRow 3 = .ok (.lconst 0, 1) := by decide +kernel
theorem dX11_noRow_4 : decode cX11_noRow 4 = .ok (.lconst 1, 1) := by decide +kernel
theorem dX11_noRow_5 : decode cX11_noRow 5 = .ok (.invokestatic 49, 3) := by decide +kernel
theorem dX11_noRow_8 : decode cX11_noRow 8 = .ok (.ifCond .eq 14, 3) := by decide +kernel
theorem dX11_noRow_11 : decode cX11_noRow 11 = .ok (.iload_n 2, 1) := by decide +kernel
theorem dX11_noRow_12 : decode cX11_noRow 12 = .ok (.invokestatic 53, 3) := by decide +kernel
theorem dX11_noRow_15 : decode cX11_noRow 15 = .ok (.ifCond .eq 7, 3) := by decide +kernel
theorem dX11_noRow_18 : decode cX11_noRow 18 = .ok (.iconst 0, 1) := by decide +kernel
theorem dX11_noRow_19 : decode cX11_noRow 19 = .ok (.goto 4, 3) := by decide +kernel
theorem dX11_noRow_22 : decode cX11_noRow 22 = .ok (.iconst 1, 1) := by decide +kernel
theorem dX11_noRow_23 : decode cX11_noRow 23 = .ok (.putfield 43, 3) := by decide +kernel
theorem dX11_noRow_26 : decode cX11_noRow 26 = .ok (.aload_n 0, 1) := by decide +kernel
theorem dX11_noRow_27 : decode cX11_noRow 27 = .ok (.getfield 43, 3) := by decide +kernel
theorem dX11_noRow_30 : decode cX11_noRow 30 = .ok (.ifCond .le 7, 3) := by decide +kernel
theorem dX11_noRow_33 : decode cX11_noRow 33 = .ok (.iconst 1, 1) := by decide +kernel
theorem dX11_noRow_34 : decode cX11_noRow 34 = .ok (.goto 4, 3) := by decide +kernel
theorem dX11_noRow_37 : decode cX11_noRow 37 = .ok (.iconst 0, 1) := by decide +kernel
theorem dX11_noRow_38 : decode cX11_noRow 38 = .ok (.ireturn, 1) := by decide +kernel
theorem dX11_capture_0 : decode cX11_capture 0 = .ok (.aload_n 0, 1) := by decide +kernel
theorem dX11_capture_1 : decode cX11_capture 1 = .ok (.iload_n 1, 1) := by decide +kernel
theorem dX11_capture_2 : decode cX11_capture 2 = .ok (.invokevirtual 128, 3) := by decide +kernel
theorem dX11_capture_5 : decode cX11_capture 5 = .ok (.ifCond .eq 5, 3) := by decide +kernel
theorem dX11_capture_8 : decode cX11_capture 8 = .ok (.iconst 0, 1) := by decide +kernel
theorem dX11_capture_9 : decode cX11_capture 9 = .ok (.ireturn, 1) := by decide +kernel
theorem dX11_capture_10 : decode cX11_capture 10 = .ok (.iload_n 2, 1) := by decide +kernel
theorem dX11_capture_11 : decode cX11_capture 11 = .ok (.i2l, 1) := by decide +kernel
theorem dX11_capture_12 : decode cX11_capture 12 = .ok (.lconst 0, 1) := by decide +kernel
theorem dX11_capture_13 : decode cX11_capture 13 = .ok (.ldc2_w 60, 3) := by decide +kernel
theorem dX11_capture_16 : decode cX11_capture 16 = .ok (.invokestatic 49, 3) := by decide +kernel
theorem dX11_capture_19 : decode cX11_capture 19 = .ok (.ifCond .eq 46, 3) := by decide +kernel
theorem dX11_capture_22 : decode cX11_capture 22 = .ok (.iload_n 3, 1) := by decide +kernel
theorem dX11_capture_23 : decode cX11_capture 23 = .ok (.i2l, 1) := by decide +kernel
theorem dX11_capture_24 : decode cX11_capture 24 = .ok (.lconst 1, 1) := by decide +kernel
theorem dX11_capture_25 : decode cX11_capture 25 = .ok (.ldc2_w 75, 3) := by decide +kernel
theorem dX11_capture_28 : decode cX11_capture 28 = .ok (.invokestatic 49, 3) := by decide +kernel
theorem dX11_capture_31 : decode cX11_capture 31 = .ok (.ifCond .eq 34, 3) := by decide +kernel
theorem dX11_capture_34 : decode cX11_capture 34 = .ok (.iload 4, 2) := by decide +kernel
theorem dX11_capture_36 : decode cX11_capture 36 = .ok (.i2l, 1) := by decide +kernel
theorem dX11_capture_37 : decode cX11_capture 37 = .ok (.lconst 1, 1) := by decide +kernel
theorem dX11_capture_38 : decode cX11_capture 38 = .ok (.ldc2_w 131, 3) := by decide +kernel
theorem dX11_capture_41 : decode cX11_capture 41 = .ok (.invokestatic 49, 3) := by decide +kernel
theorem dX11_capture_44 : decode cX11_capture 44 = .ok (.ifCond .eq 21, 3) := by decide +kernel
theorem dX11_capture_47 : decode cX11_capture 47 = .ok (.iload_n 2, 1) := by decide +kernel
theorem dX11_capture_48 : decode cX11_capture 48 = .ok (.iload 4, 2) := by decide +kernel
theorem dX11_capture_50 : decode cX11_capture 50 = .ok (.iconst 1, 1) := by decide +kernel
theorem dX11_capture_51 : decode cX11_capture 51 = .ok (.isub, 1) := by decide +kernel
theorem dX11_capture_52 : decode cX11_capture 52 = .ok (.iload_n 3, 1) := by decide +kernel
theorem dX11_capture_53 : decode cX11_capture 53 = .ok (.imul, 1) := by decide +kernel
theorem dX11_capture_54 : decode cX11_capture 54 = .ok (.iadd, 1) := by decide +kernel
theorem dX11_capture_55 : decode cX11_capture 55 = .ok (.sipush 9999, 3) := by decide +kernel
theorem dX11_capture_58 : decode cX11_capture 58 = .ok (.if_icmp .gt 7, 3) := by decide +kernel
theorem dX11_capture_61 : decode cX11_capture 61 = .ok (.iconst 1, 1) := by decide +kernel
theorem dX11_capture_62 : decode cX11_capture 62 = .ok (.goto 4, 3) := by decide +kernel
theorem dX11_capture_65 : decode cX11_capture 65 = .ok (.iconst 0, 1) := by decide +kernel
theorem dX11_capture_66 : decode cX11_capture 66 = .ok (.istore 5, 2) := by decide +kernel
theorem dX11_capture_68 : decode cX11_capture 68 = .ok (.aload_n 0, 1) := by decide +kernel
theorem dX11_capture_69 : decode cX11_capture 69 = .ok (.iload 5, 2) := by decide +kernel
theorem dX11_capture_71 : decode cX11_capture 71 = .ok (.ifCond .eq 7, 3) := by decide +kernel
theorem dX11_capture_74 : decode cX11_capture 74 = .ok (.iconst 0, 1) := by decide +kernel
theorem dX11_capture_75 : decode cX11_capture 75 = .ok (.goto 4, 3) := by decide +kernel
theorem dX11_capture_78 : decode cX11_capture 78 = .ok (.iconst 2, 1) := by decide +kernel
theorem dX11_capture_79 : decode cX11_capture 79 = .ok (.putfield 43, 3) := by decide +kernel
theorem dX11_capture_82 : decode cX11_capture 82 = .ok (.aload_n 0, 1) := by decide +kernel
theorem dX11_capture_83 : decode cX11_capture 83 = .ok (.getfield 43, 3) := by decide +kernel
theorem dX11_capture_86 : decode cX11_capture 86 = .ok (.ifCond .le 5, 3) := by decide +kernel
theorem dX11_capture_89 : decode cX11_capture 89 = .ok (.iconst 0, 1) := by decide +kernel
theorem dX11_capture_90 : decode cX11_capture 90 = .ok (.ireturn, 1) := by decide +kernel
theorem dX11_capture_91 : decode cX11_capture 91 = .ok (.iload 4, 2) := by decide +kernel
theorem dX11_capture_93 : decode cX11_capture 93 = .ok (.newarray .int, 2) := by decide +kernel
theorem dX11_capture_95 : decode cX11_capture 95 = .ok (.astore 6, 2) := by decide +kernel
theorem dX11_capture_97 : decode cX11_capture 97 = .ok (.aload_n 0, 1) := by decide +kernel
theorem dX11_capture_98 : decode cX11_capture 98 = .ok (.getfield 9, 3) := by decide +kernel
theorem dX11_capture_101 : decode cX11_capture 101 = .ok (.invokevirtual 71, 3) := by decide +kernel
theorem dX11_capture_104 : decode cX11_capture 104 = .ok (.checkcast 70, 3) := by decide +kernel
theorem dX11_capture_107 : decode cX11_capture 107 = .ok (.astore 7, 2) := by decide +kernel
theorem dX11_capture_109 : decode cX11_capture 109 = .ok (.iconst 0, 1) := by decide +kernel
theorem dX11_capture_110 : decode cX11_capture 110 = .ok (.istore 8, 2) := by decide +kernel
theorem dX11_capture_112 : decode cX11_capture 112 = .ok (.iconst 0, 1) := by decide +kernel
theorem dX11_capture_113 : decode cX11_capture 113 = .ok (.istore 9, 2) := by decide +kernel
theorem dX11_capture_115 : decode cX11_capture 115 = .ok (.iconst 0, 1) := by decide +kernel
theorem dX11_capture_116 : decode cX11_capture 116 = .ok (.istore 10, 2) := by decide +kernel
theorem dX11_capture_118 : decode cX11_capture 118 = .ok (.iload 10, 2) := by decide +kernel
theorem dX11_capture_120 : decode cX11_capture 120 = .ok (.iload 4, 2) := by decide +kernel
theorem dX11_capture_122 : decode cX11_capture 122 = .ok (.if_icmp .ge 138, 3) := by decide +kernel
theorem dX11_capture_125 : decode cX11_capture 125 = .ok (.iload 8, 2) := by decide +kernel
theorem dX11_capture_127 : decode cX11_capture 127 = .ok (.iload_n 2, 1) := by decide +kernel
theorem dX11_capture_128 : decode cX11_capture 128 = .ok (.iload 10, 2) := by decide +kernel
theorem dX11_capture_130 : decode cX11_capture 130 = .ok (.iload_n 3, 1) := by decide +kernel
theorem dX11_capture_131 : decode cX11_capture 131 = .ok (.imul, 1) := by decide +kernel
theorem dX11_capture_132 : decode cX11_capture 132 = .ok (.iadd, 1) := by decide +kernel
theorem dX11_capture_133 : decode cX11_capture 133 = .ok (.if_icmp .gt 52, 3) := by decide +kernel
theorem dX11_capture_136 : decode cX11_capture 136 = .ok (.iconst 0, 1) := by decide +kernel
theorem dX11_capture_137 : decode cX11_capture 137 = .ok (.istore 11, 2) := by decide +kernel
theorem dX11_capture_139 : decode cX11_capture 139 = .ok (.iload 11, 2) := by decide +kernel
theorem dX11_capture_141 : decode cX11_capture 141 = .ok (.iconst 4, 1) := by decide +kernel
theorem dX11_capture_142 : decode cX11_capture 142 = .ok (.if_icmp .ge 37, 3) := by decide +kernel
theorem dX11_capture_145 : decode cX11_capture 145 = .ok (.aload 7, 2) := by decide +kernel
theorem dX11_capture_147 : decode cX11_capture 147 = .ok (.iload 11, 2) := by decide +kernel
theorem dX11_capture_149 : decode cX11_capture 149 = .ok (.aload 7, 2) := by decide +kernel
theorem dX11_capture_151 : decode cX11_capture 151 = .ok (.iload 11, 2) := by decide +kernel
theorem dX11_capture_153 : decode cX11_capture 153 = .ok (.baload, 1) := by decide +kernel
theorem dX11_capture_154 : decode cX11_capture 154 = .ok (.aload_n 0, 1) := by decide +kernel
theorem dX11_capture_155 : decode cX11_capture 155 = .ok (.getfield 15, 3) := by decide +kernel
theorem dX11_capture_158 : decode cX11_capture 158 = .ok (.iload 11, 2) := by decide +kernel
theorem dX11_capture_160 : decode cX11_capture 160 = .ok (.aaload, 1) := by decide +kernel
theorem dX11_capture_161 : decode cX11_capture 161 = .ok (.iload 8, 2) := by decide +kernel
theorem dX11_capture_163 : decode cX11_capture 163 = .ok (.baload, 1) := by decide +kernel
theorem dX11_capture_164 : decode cX11_capture 164 = .ok (.if_icmp .eq 7, 3) := by decide +kernel
theorem dX11_capture_167 : decode cX11_capture 167 = .ok (.iconst 1, 1) := by decide +kernel
theorem dX11_capture_168 : decode cX11_capture 168 = .ok (.goto 4, 3) := by decide +kernel
theorem dX11_capture_171 : decode cX11_capture 171 = .ok (.iconst 0, 1) := by decide +kernel
theorem dX11_capture_172 : decode cX11_capture 172 = .ok (.bastore, 1) := by decide +kernel
theorem dX11_capture_173 : decode cX11_capture 173 = .ok (.iinc 11 1, 3) := by decide +kernel
theorem dX11_capture_176 : decode cX11_capture 176 = .ok (.goto (-37), 3) := by decide +kernel
theorem dX11_capture_179 : decode cX11_capture 179 = .ok (.iinc 8 1, 3) := by decide +kernel
theorem dX11_capture_182 : decode cX11_capture 182 = .ok (.goto (-57), 3) := by decide +kernel
theorem dX11_capture_185 : decode cX11_capture 185 = .ok (.iconst 0, 1) := by decide +kernel
theorem dX11_capture_186 : decode cX11_capture 186 = .ok (.istore 11, 2) := by decide +kernel
theorem dX11_capture_188 : decode cX11_capture 188 = .ok (.iload 11, 2) := by decide +kernel
theorem dX11_capture_190 : decode cX11_capture 190 = .ok (.iconst 4, 1) := by decide +kernel
theorem dX11_capture_191 : decode cX11_capture 191 = .ok (.if_icmp .ge 33, 3) := by decide +kernel
theorem dX11_capture_194 : decode cX11_capture 194 = .ok (.aload 6, 2) := by decide +kernel
theorem dX11_capture_196 : decode cX11_capture 196 = .ok (.iload 10, 2) := by decide +kernel
theorem dX11_capture_198 : decode cX11_capture 198 = .ok (.dup2, 1) := by decide +kernel
theorem dX11_capture_199 : decode cX11_capture 199 = .ok (.iaload, 1) := by decide +kernel
theorem dX11_capture_200 : decode cX11_capture 200 = .ok (.aload 7, 2) := by decide +kernel
theorem dX11_capture_202 : decode cX11_capture 202 = .ok (.iload 11, 2) := by decide +kernel
theorem dX11_capture_204 : decode cX11_capture 204 = .ok (.baload, 1) := by decide +kernel
theorem dX11_capture_205 : decode cX11_capture 205 = .ok (.ifCond .eq 10, 3) := by decide +kernel
theorem dX11_capture_208 : decode cX11_capture 208 = .ok (.iconst 1, 1) := by decide +kernel
theorem dX11_capture_209 : decode cX11_capture 209 = .ok (.iload 11, 2) := by decide +kernel
theorem dX11_capture_211 : decode cX11_capture 211 = .ok (.ishl, 1) := by decide +kernel
theorem dX11_capture_212 : decode cX11_capture 212 = .ok (.goto 4, 3) := by decide +kernel
theorem dX11_capture_215 : decode cX11_capture 215 = .ok (.iconst 0, 1) := by decide +kernel
theorem dX11_capture_216 : decode cX11_capture 216 = .ok (.ior, 1) := by decide +kernel
theorem dX11_capture_217 : decode cX11_capture 217 = .ok (.iastore, 1) := by decide +kernel
theorem dX11_capture_218 : decode cX11_capture 218 = .ok (.iinc 11 1, 3) := by decide +kernel
theorem dX11_capture_221 : decode cX11_capture 221 = .ok (.goto (-33), 3) := by decide +kernel
theorem dX11_capture_224 : decode cX11_capture 224 = .ok (.iload 9, 2) := by decide +kernel
theorem dX11_capture_226 : decode cX11_capture 226 = .ok (.iload 10, 2) := by decide +kernel
theorem dX11_capture_228 : decode cX11_capture 228 = .ok (.ifCond .le 22, 3) := by decide +kernel
theorem dX11_capture_231 : decode cX11_capture 231 = .ok (.aload 6, 2) := by decide +kernel
theorem dX11_capture_233 : decode cX11_capture 233 = .ok (.iload 10, 2) := by decide +kernel
theorem dX11_capture_235 : decode cX11_capture 235 = .ok (.iaload, 1) := by decide +kernel
theorem dX11_capture_236 : decode cX11_capture 236 = .ok (.aload 6, 2) := by decide +kernel
theorem dX11_capture_238 : decode cX11_capture 238 = .ok (.iload 10, 2) := by decide +kernel
theorem dX11_capture_240 : decode cX11_capture 240 = .ok (.iconst 1, 1) := by decide +kernel
theorem dX11_capture_241 : decode cX11_capture 241 = .ok (.isub, 1) := by decide +kernel
theorem dX11_capture_242 : decode cX11_capture 242 = .ok (.iaload, 1) := by decide +kernel
theorem dX11_capture_243 : decode cX11_capture 243 = .ok (.if_icmp .eq 7, 3) := by decide +kernel
theorem dX11_capture_246 : decode cX11_capture 246 = .ok (.iconst 1, 1) := by decide +kernel
theorem dX11_capture_247 : decode cX11_capture 247 = .ok (.goto 4, 3) := by decide +kernel
theorem dX11_capture_250 : decode cX11_capture 250 = .ok (.iconst 0, 1) := by decide +kernel
theorem dX11_capture_251 : decode cX11_capture 251 = .ok (.iadd, 1) := by decide +kernel
theorem dX11_capture_252 : decode cX11_capture 252 = .ok (.istore 9, 2) := by decide +kernel
theorem dX11_capture_254 : decode cX11_capture 254 = .ok (.iinc 10 1, 3) := by decide +kernel
theorem dX11_capture_257 : decode cX11_capture 257 = .ok (.goto (-139), 3) := by decide +kernel
theorem dX11_capture_260 : decode cX11_capture 260 = .ok (.aload_n 0, 1) := by decide +kernel
theorem dX11_capture_261 : decode cX11_capture 261 = .ok (.getfield 27, 3) := by decide +kernel
theorem dX11_capture_264 : decode cX11_capture 264 = .ok (.iload_n 1, 1) := by decide +kernel
theorem dX11_capture_265 : decode cX11_capture 265 = .ok (.aload 6, 2) := by decide +kernel
theorem dX11_capture_267 : decode cX11_capture 267 = .ok (.aastore, 1) := by decide +kernel
theorem dX11_capture_268 : decode cX11_capture 268 = .ok (.iload 9, 2) := by decide +kernel
theorem dX11_capture_270 : decode cX11_capture 270 = .ok (.ireturn, 1) := by decide +kernel
theorem dX11_samples_0 : decode cX11_samples 0 = .ok (.aload_n 0, 1) := by decide +kernel
theorem dX11_samples_1 : decode cX11_samples 1 = .ok (.iload_n 1, 1) := by decide +kernel
theorem dX11_samples_2 : decode cX11_samples 2 = .ok (.invokevirtual 128, 3) := by decide +kernel
theorem dX11_samples_5 : decode cX11_samples 5 = .ok (.ifCond .eq 7, 3) := by decide +kernel
theorem dX11_samples_8 : decode cX11_samples 8 = .ok (.iconst 0, 1) := by decide +kernel
theorem dX11_samples_9 : decode cX11_samples 9 = .ok (.goto 10, 3) := by decide +kernel
theorem dX11_samples_12 : decode cX11_samples 12 = .ok (.aload_n 0, 1) := by decide +kernel
theorem dX11_samples_13 : decode cX11_samples 13 = .ok (.getfield 27, 3) := by decide +kernel
theorem dX11_samples_16 : decode cX11_samples 16 = .ok (.iload_n 1, 1) := by decide +kernel
theorem dX11_samples_17 : decode cX11_samples 17 = .ok (.aaload, 1) := by decide +kernel
theorem dX11_samples_18 : decode cX11_samples 18 = .ok (.arraylength, 1) := by decide +kernel
theorem dX11_samples_19 : decode cX11_samples 19 = .ok (.ireturn, 1) := by decide +kernel
theorem dX11_sample_0 : decode cX11_sample 0 = .ok (.aload_n 0, 1) := by decide +kernel
theorem dX11_sample_1 : decode cX11_sample 1 = .ok (.iload_n 1, 1) := by decide +kernel
theorem dX11_sample_2 : decode cX11_sample 2 = .ok (.invokevirtual 128, 3) := by decide +kernel
theorem dX11_sample_5 : decode cX11_sample 5 = .ok (.ifCond .eq 5, 3) := by decide +kernel
theorem dX11_sample_8 : decode cX11_sample 8 = .ok (.iconst 0, 1) := by decide +kernel
theorem dX11_sample_9 : decode cX11_sample 9 = .ok (.ireturn, 1) := by decide +kernel
theorem dX11_sample_10 : decode cX11_sample 10 = .ok (.aload_n 0, 1) := by decide +kernel
theorem dX11_sample_11 : decode cX11_sample 11 = .ok (.iload_n 2, 1) := by decide +kernel
theorem dX11_sample_12 : decode cX11_sample 12 = .ok (.i2l, 1) := by decide +kernel
theorem dX11_sample_13 : decode cX11_sample 13 = .ok (.lconst 0, 1) := by decide +kernel
theorem dX11_sample_14 : decode cX11_sample 14 = .ok (.aload_n 0, 1) := by decide +kernel
theorem dX11_sample_15 : decode cX11_sample 15 = .ok (.getfield 27, 3) := by decide +kernel
theorem dX11_sample_18 : decode cX11_sample 18 = .ok (.iload_n 1, 1) := by decide +kernel
theorem dX11_sample_19 : decode cX11_sample 19 = .ok (.aaload, 1) := by decide +kernel
theorem dX11_sample_20 : decode cX11_sample 20 = .ok (.arraylength, 1) := by decide +kernel
theorem dX11_sample_21 : decode cX11_sample 21 = .ok (.iconst 1, 1) := by decide +kernel
theorem dX11_sample_22 : decode cX11_sample 22 = .ok (.isub, 1) := by decide +kernel
theorem dX11_sample_23 : decode cX11_sample 23 = .ok (.i2l, 1) := by decide +kernel
theorem dX11_sample_24 : decode cX11_sample 24 = .ok (.invokestatic 49, 3) := by decide +kernel
theorem dX11_sample_27 : decode cX11_sample 27 = .ok (.ifCond .eq 7, 3) := by decide +kernel
theorem dX11_sample_30 : decode cX11_sample 30 = .ok (.iconst 0, 1) := by decide +kernel
theorem dX11_sample_31 : decode cX11_sample 31 = .ok (.goto 4, 3) := by decide +kernel
theorem dX11_sample_34 : decode cX11_sample 34 = .ok (.iconst 2, 1) := by decide +kernel
theorem dX11_sample_35 : decode cX11_sample 35 = .ok (.putfield 43, 3) := by decide +kernel
theorem dX11_sample_38 : decode cX11_sample 38 = .ok (.aload_n 0, 1) := by decide +kernel
theorem dX11_sample_39 : decode cX11_sample 39 = .ok (.getfield 43, 3) := by decide +kernel
theorem dX11_sample_42 : decode cX11_sample 42 = .ok (.ifCond .le 7, 3) := by decide +kernel
theorem dX11_sample_45 : decode cX11_sample 45 = .ok (.iconst 0, 1) := by decide +kernel
theorem dX11_sample_46 : decode cX11_sample 46 = .ok (.goto 11, 3) := by decide +kernel
theorem dX11_sample_49 : decode cX11_sample 49 = .ok (.aload_n 0, 1) := by decide +kernel
theorem dX11_sample_50 : decode cX11_sample 50 = .ok (.getfield 27, 3) := by decide +kernel
theorem dX11_sample_53 : decode cX11_sample 53 = .ok (.iload_n 1, 1) := by decide +kernel
theorem dX11_sample_54 : decode cX11_sample 54 = .ok (.aaload, 1) := by decide +kernel
theorem dX11_sample_55 : decode cX11_sample 55 = .ok (.iload_n 2, 1) := by decide +kernel
theorem dX11_sample_56 : decode cX11_sample 56 = .ok (.iaload, 1) := by decide +kernel
theorem dX11_sample_57 : decode cX11_sample 57 = .ok (.ireturn, 1) := by decide +kernel
theorem dX11_isHigh_0 : decode cX11_isHigh 0 = .ok (.aload_n 0, 1) := by decide +kernel
theorem dX11_isHigh_1 : decode cX11_isHigh 1 = .ok (.getfield 27, 3) := by decide +kernel
theorem dX11_isHigh_4 : decode cX11_isHigh 4 = .ok (.iload_n 1, 1) := by decide +kernel
theorem dX11_isHigh_5 : decode cX11_isHigh 5 = .ok (.aaload, 1) := by decide +kernel
theorem dX11_isHigh_6 : decode cX11_isHigh 6 = .ok (.iload_n 3, 1) := by decide +kernel
theorem dX11_isHigh_7 : decode cX11_isHigh 7 = .ok (.iaload, 1) := by decide +kernel
theorem dX11_isHigh_8 : decode cX11_isHigh 8 = .ok (.iload_n 2, 1) := by decide +kernel
theorem dX11_isHigh_9 : decode cX11_isHigh 9 = .ok (.ishr, 1) := by decide +kernel
theorem dX11_isHigh_10 : decode cX11_isHigh 10 = .ok (.iconst 1, 1) := by decide +kernel
theorem dX11_isHigh_11 : decode cX11_isHigh 11 = .ok (.iand, 1) := by decide +kernel
theorem dX11_isHigh_12 : decode cX11_isHigh 12 = .ok (.iconst 1, 1) := by decide +kernel
theorem dX11_isHigh_13 : decode cX11_isHigh 13 = .ok (.if_icmp .ne 7, 3) := by decide +kernel
theorem dX11_isHigh_16 : decode cX11_isHigh 16 = .ok (.iconst 1, 1) := by decide +kernel
theorem dX11_isHigh_17 : decode cX11_isHigh 17 = .ok (.goto 4, 3) := by decide +kernel
theorem dX11_isHigh_20 : decode cX11_isHigh 20 = .ok (.iconst 0, 1) := by decide +kernel
theorem dX11_isHigh_21 : decode cX11_isHigh 21 = .ok (.ireturn, 1) := by decide +kernel
theorem dX11_isEdge_0 : decode cX11_isEdge 0 = .ok (.iload_n 3, 1) := by decide +kernel
theorem dX11_isEdge_1 : decode cX11_isEdge 1 = .ok (.ifCond .le 26, 3) := by decide +kernel
theorem dX11_isEdge_4 : decode cX11_isEdge 4 = .ok (.aload_n 0, 1) := by decide +kernel
theorem dX11_isEdge_5 : decode cX11_isEdge 5 = .ok (.iload_n 1, 1) := by decide +kernel
theorem dX11_isEdge_6 : decode cX11_isEdge 6 = .ok (.iload_n 2, 1) := by decide +kernel
theorem dX11_isEdge_7 : decode cX11_isEdge 7 = .ok (.iload_n 3, 1) := by decide +kernel
theorem dX11_isEdge_8 : decode cX11_isEdge 8 = .ok (.invokevirtual 133, 3) := by decide +kernel
theorem dX11_isEdge_11 : decode cX11_isEdge 11 = .ok (.aload_n 0, 1) := by decide +kernel
theorem dX11_isEdge_12 : decode cX11_isEdge 12 = .ok (.iload_n 1, 1) := by decide +kernel
theorem dX11_isEdge_13 : decode cX11_isEdge 13 = .ok (.iload_n 2, 1) := by decide +kernel
theorem dX11_isEdge_14 : decode cX11_isEdge 14 = .ok (.iload_n 3, 1) := by decide +kernel
theorem dX11_isEdge_15 : decode cX11_isEdge 15 = .ok (.iconst 1, 1) := by decide +kernel
theorem dX11_isEdge_16 : decode cX11_isEdge 16 = .ok (.isub, 1) := by decide +kernel
theorem dX11_isEdge_17 : decode cX11_isEdge 17 = .ok (.invokevirtual 133, 3) := by decide +kernel
theorem dX11_isEdge_20 : decode cX11_isEdge 20 = .ok (.if_icmp .eq 7, 3) := by decide +kernel
theorem dX11_isEdge_23 : decode cX11_isEdge 23 = .ok (.iconst 1, 1) := by decide +kernel
theorem dX11_isEdge_24 : decode cX11_isEdge 24 = .ok (.goto 4, 3) := by decide +kernel
theorem dX11_isEdge_27 : decode cX11_isEdge 27 = .ok (.iconst 0, 1) := by decide +kernel
theorem dX11_isEdge_28 : decode cX11_isEdge 28 = .ok (.ireturn, 1) := by decide +kernel
theorem dX11_falls_0 : decode cX11_falls 0 = .ok (.aload_n 0, 1) := by decide +kernel
theorem dX11_falls_1 : decode cX11_falls 1 = .ok (.iload_n 1, 1) := by decide +kernel
theorem dX11_falls_2 : decode cX11_falls 2 = .ok (.iload_n 2, 1) := by decide +kernel
theorem dX11_falls_3 : decode cX11_falls 3 = .ok (.iload_n 3, 1) := by decide +kernel
theorem dX11_falls_4 : decode cX11_falls 4 = .ok (.invokevirtual 137, 3) := by decide +kernel
theorem dX11_falls_7 : decode cX11_falls 7 = .ok (.ifCond .eq 17, 3) := by decide +kernel
theorem dX11_falls_10 : decode cX11_falls 10 = .ok (.aload_n 0, 1) := by decide +kernel
theorem dX11_falls_11 : decode cX11_falls 11 = .ok (.iload_n 1, 1) := by decide +kernel
theorem dX11_falls_12 : decode cX11_falls 12 = .ok (.iload_n 2, 1) := by decide +kernel
theorem dX11_falls_13 : decode cX11_falls 13 = .ok (.iload_n 3, 1) := by decide +kernel
theorem dX11_falls_14 : decode cX11_falls 14 = .ok (.invokevirtual 133, 3) := by decide +kernel
theorem dX11_falls_17 : decode cX11_falls 17 = .ok (.ifCond .ne 7, 3) := by decide +kernel
theorem dX11_falls_20 : decode cX11_falls 20 = .ok (.iconst 1, 1) := by decide +kernel
theorem dX11_falls_21 : decode cX11_falls 21 = .ok (.goto 4, 3) := by decide +kernel
theorem dX11_falls_24 : decode cX11_falls 24 = .ok (.iconst 0, 1) := by decide +kernel
theorem dX11_falls_25 : decode cX11_falls 25 = .ok (.ireturn, 1) := by decide +kernel
theorem dX11_rises_0 : decode cX11_rises 0 = .ok (.aload_n 0, 1) := by decide +kernel
theorem dX11_rises_1 : decode cX11_rises 1 = .ok (.iload_n 1, 1) := by decide +kernel
theorem dX11_rises_2 : decode cX11_rises 2 = .ok (.iload_n 2, 1) := by decide +kernel
theorem dX11_rises_3 : decode cX11_rises 3 = .ok (.iload_n 3, 1) := by decide +kernel
theorem dX11_rises_4 : decode cX11_rises 4 = .ok (.invokevirtual 137, 3) := by decide +kernel
theorem dX11_rises_7 : decode cX11_rises 7 = .ok (.ifCond .eq 17, 3) := by decide +kernel
theorem dX11_rises_10 : decode cX11_rises 10 = .ok (.aload_n 0, 1) := by decide +kernel
theorem dX11_rises_11 : decode cX11_rises 11 = .ok (.iload_n 1, 1) := by decide +kernel
theorem dX11_rises_12 : decode cX11_rises 12 = .ok (.iload_n 2, 1) := by decide +kernel
theorem dX11_rises_13 : decode cX11_rises 13 = .ok (.iload_n 3, 1) := by decide +kernel
theorem dX11_rises_14 : decode cX11_rises 14 = .ok (.invokevirtual 133, 3) := by decide +kernel
theorem dX11_rises_17 : decode cX11_rises 17 = .ok (.ifCond .eq 7, 3) := by decide +kernel
theorem dX11_rises_20 : decode cX11_rises 20 = .ok (.iconst 1, 1) := by decide +kernel
theorem dX11_rises_21 : decode cX11_rises 21 = .ok (.goto 4, 3) := by decide +kernel
theorem dX11_rises_24 : decode cX11_rises 24 = .ok (.iconst 0, 1) := by decide +kernel
theorem dX11_rises_25 : decode cX11_rises 25 = .ok (.ireturn, 1) := by decide +kernel
theorem dX11_runsOf_0 : decode cX11_runsOf 0 = .ok (.new 30, 3) := by decide +kernel
theorem dX11_runsOf_3 : decode cX11_runsOf 3 = .ok (.dup, 1) := by decide +kernel
theorem dX11_runsOf_4 : decode cX11_runsOf 4 = .ok (.invokespecial 32, 3) := by decide +kernel
theorem dX11_runsOf_7 : decode cX11_runsOf 7 = .ok (.astore_n 3, 1) := by decide +kernel
theorem dX11_runsOf_8 : decode cX11_runsOf 8 = .ok (.iconst 0, 1) := by decide +kernel
theorem dX11_runsOf_9 : decode cX11_runsOf 9 = .ok (.istore 4, 2) := by decide +kernel
theorem dX11_runsOf_11 : decode cX11_runsOf 11 = .ok (.iload 4, 2) := by decide +kernel
theorem dX11_runsOf_13 : decode cX11_runsOf 13 = .ok (.aload_n 0, 1) := by decide +kernel
theorem dX11_runsOf_14 : decode cX11_runsOf 14 = .ok (.getfield 27, 3) := by decide +kernel
theorem dX11_runsOf_17 : decode cX11_runsOf 17 = .ok (.iload_n 1, 1) := by decide +kernel
theorem dX11_runsOf_18 : decode cX11_runsOf 18 = .ok (.aaload, 1) := by decide +kernel
theorem dX11_runsOf_19 : decode cX11_runsOf 19 = .ok (.arraylength, 1) := by decide +kernel
theorem dX11_runsOf_20 : decode cX11_runsOf 20 = .ok (.if_icmp .ge 76, 3) := by decide +kernel
theorem dX11_runsOf_23 : decode cX11_runsOf 23 = .ok (.iload 4, 2) := by decide +kernel
theorem dX11_runsOf_25 : decode cX11_runsOf 25 = .ok (.ifCond .eq 14, 3) := by decide +kernel
theorem dX11_runsOf_28 : decode cX11_runsOf 28 = .ok (.aload_n 0, 1) := by decide +kernel
theorem dX11_runsOf_29 : decode cX11_runsOf 29 = .ok (.iload_n 1, 1) := by decide +kernel
theorem dX11_runsOf_30 : decode cX11_runsOf 30 = .ok (.iload_n 2, 1) := by decide +kernel
theorem dX11_runsOf_31 : decode cX11_runsOf 31 = .ok (.iload 4, 2) := by decide +kernel
theorem dX11_runsOf_33 : decode cX11_runsOf 33 = .ok (.invokevirtual 137, 3) := by decide +kernel
theorem dX11_runsOf_36 : decode cX11_runsOf 36 = .ok (.ifCond .eq 15, 3) := by decide +kernel
theorem dX11_runsOf_39 : decode cX11_runsOf 39 = .ok (.aload_n 3, 1) := by decide +kernel
theorem dX11_runsOf_40 : decode cX11_runsOf 40 = .ok (.iconst 1, 1) := by decide +kernel
theorem dX11_runsOf_41 : decode cX11_runsOf 41 = .ok (.invokestatic 140, 3) := by decide +kernel
theorem dX11_runsOf_44 : decode cX11_runsOf 44 = .ok (.invokevirtual 144, 3) := by decide +kernel
theorem dX11_runsOf_47 : decode cX11_runsOf 47 = .ok (.pop, 1) := by decide +kernel
theorem dX11_runsOf_48 : decode cX11_runsOf 48 = .ok (.goto 42, 3) := by decide +kernel
theorem dX11_runsOf_51 : decode cX11_runsOf 51 = .ok (.aload_n 3, 1) := by decide +kernel
theorem dX11_runsOf_52 : decode cX11_runsOf 52 = .ok (.aload_n 3, 1) := by decide +kernel
theorem dX11_runsOf_53 : decode cX11_runsOf 53 = .ok (.invokevirtual 148, 3) := by decide +kernel
theorem dX11_runsOf_56 : decode cX11_runsOf 56 = .ok (.iconst 1, 1) := by decide +kernel
theorem dX11_runsOf_57 : decode cX11_runsOf 57 = .ok (.isub, 1) := by decide +kernel
theorem dX11_runsOf_58 : decode cX11_runsOf 58 = .ok (.aload_n 3, 1) := by decide +kernel
theorem dX11_runsOf_59 : decode cX11_runsOf 59 = .ok (.aload_n 3, 1) := by decide +kernel
theorem dX11_runsOf_60 : decode cX11_runsOf 60 = .ok (.invokevirtual 148, 3) := by decide +kernel
theorem dX11_runsOf_63 : decode cX11_runsOf 63 = .ok (.iconst 1, 1) := by decide +kernel
theorem dX11_runsOf_64 : decode cX11_runsOf 64 = .ok (.isub, 1) := by decide +kernel
theorem dX11_runsOf_65 : decode cX11_runsOf 65 = .ok (.invokevirtual 152, 3) := by decide +kernel
theorem dX11_runsOf_68 : decode cX11_runsOf 68 = .ok (.checkcast 117, 3) := by decide +kernel
theorem dX11_runsOf_71 : decode cX11_runsOf 71 = .ok (.invokevirtual 156, 3) := by decide +kernel
theorem dX11_runsOf_74 : decode cX11_runsOf 74 = .ok (.iconst 1, 1) := by decide +kernel
theorem dX11_runsOf_75 : decode cX11_runsOf 75 = .ok (.iadd, 1) := by decide +kernel
theorem dX11_runsOf_76 : decode cX11_runsOf 76 = .ok (.invokestatic 140, 3) := by decide +kernel
theorem dX11_runsOf_79 : decode cX11_runsOf 79 = .ok (.invokevirtual 159, 3) := by decide +kernel
theorem dX11_runsOf_82 : decode cX11_runsOf 82 = .ok (.checkcast 117, 3) := by decide +kernel
theorem dX11_runsOf_85 : decode cX11_runsOf 85 = .ok (.invokevirtual 156, 3) := by decide +kernel
theorem dX11_runsOf_88 : decode cX11_runsOf 88 = .ok (.istore 5, 2) := by decide +kernel
theorem dX11_runsOf_90 : decode cX11_runsOf 90 = .ok (.iinc 4 1, 3) := by decide +kernel
theorem dX11_runsOf_93 : decode cX11_runsOf 93 = .ok (.goto (-82), 3) := by decide +kernel
theorem dX11_runsOf_96 : decode cX11_runsOf 96 = .ok (.aload_n 3, 1) := by decide +kernel
theorem dX11_runsOf_97 : decode cX11_runsOf 97 = .ok (.areturn, 1) := by decide +kernel
theorem dX11_runs_0 : decode cX11_runs 0 = .ok (.aload_n 0, 1) := by decide +kernel
theorem dX11_runs_1 : decode cX11_runs 1 = .ok (.iload_n 1, 1) := by decide +kernel
theorem dX11_runs_2 : decode cX11_runs 2 = .ok (.iload_n 2, 1) := by decide +kernel
theorem dX11_runs_3 : decode cX11_runs 3 = .ok (.invokevirtual 163, 3) := by decide +kernel
theorem dX11_runs_6 : decode cX11_runs 6 = .ok (.ifCond .eq 7, 3) := by decide +kernel
theorem dX11_runs_9 : decode cX11_runs 9 = .ok (.iconst 0, 1) := by decide +kernel
theorem dX11_runs_10 : decode cX11_runs 10 = .ok (.goto 12, 3) := by decide +kernel
theorem dX11_runs_13 : decode cX11_runs 13 = .ok (.aload_n 0, 1) := by decide +kernel
theorem dX11_runs_14 : decode cX11_runs 14 = .ok (.iload_n 1, 1) := by decide +kernel
theorem dX11_runs_15 : decode cX11_runs 15 = .ok (.iload_n 2, 1) := by decide +kernel
theorem dX11_runs_16 : decode cX11_runs 16 = .ok (.invokevirtual 166, 3) := by decide +kernel
theorem dX11_runs_19 : decode cX11_runs 19 = .ok (.invokevirtual 148, 3) := by decide +kernel
theorem dX11_runs_22 : decode cX11_runs 22 = .ok (.ireturn, 1) := by decide +kernel
theorem dX11_run_0 : decode cX11_run 0 = .ok (.aload_n 0, 1) := by decide +kernel
theorem dX11_run_1 : decode cX11_run 1 = .ok (.iload_n 1, 1) := by decide +kernel
theorem dX11_run_2 : decode cX11_run 2 = .ok (.iload_n 2, 1) := by decide +kernel
theorem dX11_run_3 : decode cX11_run 3 = .ok (.invokevirtual 163, 3) := by decide +kernel
theorem dX11_run_6 : decode cX11_run 6 = .ok (.ifCond .eq 5, 3) := by decide +kernel
theorem dX11_run_9 : decode cX11_run 9 = .ok (.iconst 0, 1) := by decide +kernel
theorem dX11_run_10 : decode cX11_run 10 = .ok (.ireturn, 1) := by decide +kernel
theorem dX11_run_11 : decode cX11_run 11 = .ok (.aload_n 0, 1) := by decide +kernel
theorem dX11_run_12 : decode cX11_run 12 = .ok (.iload_n 1, 1) := by decide +kernel
theorem dX11_run_13 : decode cX11_run 13 = .ok (.iload_n 2, 1) := by decide +kernel
theorem dX11_run_14 : decode cX11_run 14 = .ok (.invokevirtual 166, 3) := by decide +kernel
theorem dX11_run_17 : decode cX11_run 17 = .ok (.astore 4, 2) := by decide +kernel
theorem dX11_run_19 : decode cX11_run 19 = .ok (.aload_n 0, 1) := by decide +kernel
theorem dX11_run_20 : decode cX11_run 20 = .ok (.iload_n 3, 1) := by decide +kernel
theorem dX11_run_21 : decode cX11_run 21 = .ok (.i2l, 1) := by decide +kernel
theorem dX11_run_22 : decode cX11_run 22 = .ok (.lconst 0, 1) := by decide +kernel
theorem dX11_run_23 : decode cX11_run 23 = .ok (.aload 4, 2) := by decide +kernel
theorem dX11_run_25 : decode cX11_run 25 = .ok (.invokevirtual 148, 3) := by decide +kernel
theorem dX11_run_28 : decode cX11_run 28 = .ok (.iconst 1, 1) := by decide +kernel
theorem dX11_run_29 : decode cX11_run 29 = .ok (.isub, 1) := by decide +kernel
theorem dX11_run_30 : decode cX11_run 30 = .ok (.i2l, 1) := by decide +kernel
theorem dX11_run_31 : decode cX11_run 31 = .ok (.invokestatic 49, 3) := by decide +kernel
theorem dX11_run_34 : decode cX11_run 34 = .ok (.ifCond .eq 7, 3) := by decide +kernel
theorem dX11_run_37 : decode cX11_run 37 = .ok (.iconst 0, 1) := by decide +kernel
theorem dX11_run_38 : decode cX11_run 38 = .ok (.goto 4, 3) := by decide +kernel
theorem dX11_run_41 : decode cX11_run 41 = .ok (.iconst 2, 1) := by decide +kernel
theorem dX11_run_42 : decode cX11_run 42 = .ok (.putfield 43, 3) := by decide +kernel
theorem dX11_run_45 : decode cX11_run 45 = .ok (.aload_n 0, 1) := by decide +kernel
theorem dX11_run_46 : decode cX11_run 46 = .ok (.getfield 43, 3) := by decide +kernel
theorem dX11_run_49 : decode cX11_run 49 = .ok (.ifCond .le 7, 3) := by decide +kernel
theorem dX11_run_52 : decode cX11_run 52 = .ok (.iconst 0, 1) := by decide +kernel
theorem dX11_run_53 : decode cX11_run 53 = .ok (.goto 15, 3) := by decide +kernel
theorem dX11_run_56 : decode cX11_run 56 = .ok (.aload 4, 2) := by decide +kernel
theorem dX11_run_58 : decode cX11_run 58 = .ok (.iload_n 3, 1) := by decide +kernel
theorem dX11_run_59 : decode cX11_run 59 = .ok (.invokevirtual 152, 3) := by decide +kernel
theorem dX11_run_62 : decode cX11_run 62 = .ok (.checkcast 117, 3) := by decide +kernel
theorem dX11_run_65 : decode cX11_run 65 = .ok (.invokevirtual 156, 3) := by decide +kernel
theorem dX11_run_68 : decode cX11_run 68 = .ok (.ireturn, 1) := by decide +kernel
theorem dX11_shortest_0 : decode cX11_shortest 0 = .ok (.aload_n 0, 1) := by decide +kernel
theorem dX11_shortest_1 : decode cX11_shortest 1 = .ok (.iload_n 1, 1) := by decide +kernel
theorem dX11_shortest_2 : decode cX11_shortest 2 = .ok (.iload_n 2, 1) := by decide +kernel
theorem dX11_shortest_3 : decode cX11_shortest 3 = .ok (.invokevirtual 163, 3) := by decide +kernel
theorem dX11_shortest_6 : decode cX11_shortest 6 = .ok (.ifCond .eq 5, 3) := by decide +kernel
theorem dX11_shortest_9 : decode cX11_shortest 9 = .ok (.iconst 0, 1) := by decide +kernel
theorem dX11_shortest_10 : decode cX11_shortest 10 = .ok (.ireturn, 1) := by decide +kernel
theorem dX11_shortest_11 : decode cX11_shortest 11 = .ok (.aload_n 0, 1) := by decide +kernel
theorem dX11_shortest_12 : decode cX11_shortest 12 = .ok (.iload_n 1, 1) := by decide +kernel
theorem dX11_shortest_13 : decode cX11_shortest 13 = .ok (.iload_n 2, 1) := by decide +kernel
theorem dX11_shortest_14 : decode cX11_shortest 14 = .ok (.invokevirtual 166, 3) := by decide +kernel
theorem dX11_shortest_17 : decode cX11_shortest 17 = .ok (.astore_n 3, 1) := by decide +kernel
theorem dX11_shortest_18 : decode cX11_shortest 18 = .ok (.iconst (-1), 1) := by decide +kernel
theorem dX11_shortest_19 : decode cX11_shortest 19 = .ok (.istore 4, 2) := by decide +kernel
theorem dX11_shortest_21 : decode cX11_shortest 21 = .ok (.iconst 1, 1) := by decide +kernel
theorem dX11_shortest_22 : decode cX11_shortest 22 = .ok (.istore 5, 2) := by decide +kernel
theorem dX11_shortest_24 : decode cX11_shortest 24 = .ok (.iload 5, 2) := by decide +kernel
theorem dX11_shortest_26 : decode cX11_shortest 26 = .ok (.aload_n 3, 1) := by decide +kernel
theorem dX11_shortest_27 : decode cX11_shortest 27 = .ok (.invokevirtual 148, 3) := by decide +kernel
theorem dX11_shortest_30 : decode cX11_shortest 30 = .ok (.iconst 1, 1) := by decide +kernel
theorem dX11_shortest_31 : decode cX11_shortest 31 = .ok (.isub, 1) := by decide +kernel
theorem dX11_shortest_32 : decode cX11_shortest 32 = .ok (.if_icmp .ge 49, 3) := by decide +kernel
theorem dX11_shortest_35 : decode cX11_shortest 35 = .ok (.iload 4, 2) := by decide +kernel
theorem dX11_shortest_37 : decode cX11_shortest 37 = .ok (.iconst (-1), 1) := by decide +kernel
theorem dX11_shortest_38 : decode cX11_shortest 38 = .ok (.if_icmp .ne 18, 3) := by decide +kernel
theorem dX11_shortest_41 : decode cX11_shortest 41 = .ok (.aload_n 3, 1) := by decide +kernel
theorem dX11_shortest_42 : decode cX11_shortest 42 = .ok (.iload 5, 2) := by decide +kernel
theorem dX11_shortest_44 : decode cX11_shortest 44 = .ok (.invokevirtual 152, 3) := by decide +kernel
theorem dX11_shortest_47 : decode cX11_shortest 47 = .ok (.checkcast 117, 3) := by decide +kernel
theorem dX11_shortest_50 : decode cX11_shortest 50 = .ok (.invokevirtual 156, 3) := by decide +kernel
theorem dX11_shortest_53 : decode cX11_shortest 53 = .ok (.goto 20, 3) := by decide +kernel
theorem dX11_shortest_56 : decode cX11_shortest 56 = .ok (.iload 4, 2) := by decide +kernel
theorem dX11_shortest_58 : decode cX11_shortest 58 = .ok (.aload_n 3, 1) := by decide +kernel
theorem dX11_shortest_59 : decode cX11_shortest 59 = .ok (.iload 5, 2) := by decide +kernel
theorem dX11_shortest_61 : decode cX11_shortest 61 = .ok (.invokevirtual 152, 3) := by decide +kernel
theorem dX11_shortest_64 : decode cX11_shortest 64 = .ok (.checkcast 117, 3) := by decide +kernel
theorem dX11_shortest_67 : decode cX11_shortest 67 = .ok (.invokevirtual 156, 3) := by decide +kernel
theorem dX11_shortest_70 : decode cX11_shortest 70 = .ok (.invokestatic 170, 3) := by decide +kernel
theorem dX11_shortest_73 : decode cX11_shortest 73 = .ok (.istore 4, 2) := by decide +kernel
theorem dX11_shortest_75 : decode cX11_shortest 75 = .ok (.iinc 5 1, 3) := by decide +kernel
theorem dX11_shortest_78 : decode cX11_shortest 78 = .ok (.goto (-54), 3) := by decide +kernel
theorem dX11_shortest_81 : decode cX11_shortest 81 = .ok (.aload_n 0, 1) := by decide +kernel
theorem dX11_shortest_82 : decode cX11_shortest 82 = .ok (.iload 4, 2) := by decide +kernel
theorem dX11_shortest_84 : decode cX11_shortest 84 = .ok (.iconst (-1), 1) := by decide +kernel
theorem dX11_shortest_85 : decode cX11_shortest 85 = .ok (.if_icmp .ne 7, 3) := by decide +kernel
theorem dX11_shortest_88 : decode cX11_shortest 88 = .ok (.iconst 2, 1) := by decide +kernel
theorem dX11_shortest_89 : decode cX11_shortest 89 = .ok (.goto 4, 3) := by decide +kernel
theorem dX11_shortest_92 : decode cX11_shortest 92 = .ok (.iconst 0, 1) := by decide +kernel
theorem dX11_shortest_93 : decode cX11_shortest 93 = .ok (.putfield 43, 3) := by decide +kernel
theorem dX11_shortest_96 : decode cX11_shortest 96 = .ok (.aload_n 0, 1) := by decide +kernel
theorem dX11_shortest_97 : decode cX11_shortest 97 = .ok (.getfield 43, 3) := by decide +kernel
theorem dX11_shortest_100 : decode cX11_shortest 100 = .ok (.ifCond .le 7, 3) := by decide +kernel
theorem dX11_shortest_103 : decode cX11_shortest 103 = .ok (.iconst 0, 1) := by decide +kernel
theorem dX11_shortest_104 : decode cX11_shortest 104 = .ok (.goto 5, 3) := by decide +kernel
theorem dX11_shortest_107 : decode cX11_shortest 107 = .ok (.iload 4, 2) := by decide +kernel
theorem dX11_shortest_109 : decode cX11_shortest 109 = .ok (.ireturn, 1) := by decide +kernel
theorem dX11_block_0 : decode cX11_block 0 = .ok (.aload_n 0, 1) := by decide +kernel
theorem dX11_block_1 : decode cX11_block 1 = .ok (.iload_n 1, 1) := by decide +kernel
theorem dX11_block_2 : decode cX11_block 2 = .ok (.iload_n 2, 1) := by decide +kernel
theorem dX11_block_3 : decode cX11_block 3 = .ok (.invokevirtual 163, 3) := by decide +kernel
theorem dX11_block_6 : decode cX11_block 6 = .ok (.ifCond .eq 6, 3) := by decide +kernel
theorem dX11_block_9 : decode cX11_block 9 = .ok (.bipush 32, 2) := by decide +kernel
theorem dX11_block_11 : decode cX11_block 11 = .ok (.ireturn, 1) := by decide +kernel
theorem dX11_block_12 : decode cX11_block 12 = .ok (.aload_n 0, 1) := by decide +kernel
theorem dX11_block_13 : decode cX11_block 13 = .ok (.iload_n 3, 1) := by decide +kernel
theorem dX11_block_14 : decode cX11_block 14 = .ok (.i2l, 1) := by decide +kernel
theorem dX11_block_15 : decode cX11_block 15 = .ok (.lconst 0, 1) := by decide +kernel
theorem dX11_block_16 : decode cX11_block 16 = .ok (.ldc2_w 176, 3) := by decide +kernel
theorem dX11_block_19 : decode cX11_block 19 = .ok (.invokestatic 49, 3) := by decide +kernel
theorem dX11_block_22 : decode cX11_block 22 = .ok (.ifCond .eq 7, 3) := by decide +kernel
theorem dX11_block_25 : decode cX11_block 25 = .ok (.iconst 0, 1) := by decide +kernel
theorem dX11_block_26 : decode cX11_block 26 = .ok (.goto 4, 3) := by decide +kernel
theorem dX11_block_29 : decode cX11_block 29 = .ok (.iconst 2, 1) := by decide +kernel
theorem dX11_block_30 : decode cX11_block 30 = .ok (.putfield 43, 3) := by decide +kernel
theorem dX11_block_33 : decode cX11_block 33 = .ok (.aload_n 0, 1) := by decide +kernel
theorem dX11_block_34 : decode cX11_block 34 = .ok (.getfield 43, 3) := by decide +kernel
theorem dX11_block_37 : decode cX11_block 37 = .ok (.ifCond .le 6, 3) := by decide +kernel
theorem dX11_block_40 : decode cX11_block 40 = .ok (.bipush 32, 2) := by decide +kernel
theorem dX11_block_42 : decode cX11_block 42 = .ok (.ireturn, 1) := by decide +kernel
theorem dX11_block_43 : decode cX11_block 43 = .ok (.iconst 1, 1) := by decide +kernel
theorem dX11_block_44 : decode cX11_block 44 = .ok (.iload_n 3, 1) := by decide +kernel
theorem dX11_block_45 : decode cX11_block 45 = .ok (.ishl, 1) := by decide +kernel
theorem dX11_block_46 : decode cX11_block 46 = .ok (.istore 5, 2) := by decide +kernel
theorem dX11_block_48 : decode cX11_block 48 = .ok (.aload_n 0, 1) := by decide +kernel
theorem dX11_block_49 : decode cX11_block 49 = .ok (.getfield 27, 3) := by decide +kernel
theorem dX11_block_52 : decode cX11_block 52 = .ok (.iload_n 1, 1) := by decide +kernel
theorem dX11_block_53 : decode cX11_block 53 = .ok (.aaload, 1) := by decide +kernel
theorem dX11_block_54 : decode cX11_block 54 = .ok (.arraylength, 1) := by decide +kernel
theorem dX11_block_55 : decode cX11_block 55 = .ok (.istore 6, 2) := by decide +kernel
theorem dX11_block_57 : decode cX11_block 57 = .ok (.aload_n 0, 1) := by decide +kernel
theorem dX11_block_58 : decode cX11_block 58 = .ok (.iload 4, 2) := by decide +kernel
theorem dX11_block_60 : decode cX11_block 60 = .ok (.ifCond .lt 21, 3) := by decide +kernel
theorem dX11_block_63 : decode cX11_block 63 = .ok (.iload 4, 2) := by decide +kernel
theorem dX11_block_65 : decode cX11_block 65 = .ok (.i2l, 1) := by decide +kernel
theorem dX11_block_66 : decode cX11_block 66 = .ok (.iload 5, 2) := by decide +kernel
theorem dX11_block_68 : decode cX11_block 68 = .ok (.i2l, 1) := by decide +kernel
theorem dX11_block_69 : decode cX11_block 69 = .ok (.lmul, 1) := by decide +kernel
theorem dX11_block_70 : decode cX11_block 70 = .ok (.iload 6, 2) := by decide +kernel
theorem dX11_block_72 : decode cX11_block 72 = .ok (.i2l, 1) := by decide +kernel
theorem dX11_block_73 : decode cX11_block 73 = .ok (.lcmp, 1) := by decide +kernel
theorem dX11_block_74 : decode cX11_block 74 = .ok (.ifCond .ge 7, 3) := by decide +kernel
theorem dX11_block_77 : decode cX11_block 77 = .ok (.iconst 0, 1) := by decide +kernel
theorem dX11_block_78 : decode cX11_block 78 = .ok (.goto 4, 3) := by decide +kernel
theorem dX11_block_81 : decode cX11_block 81 = .ok (.iconst 3, 1) := by decide +kernel
theorem dX11_block_82 : decode cX11_block 82 = .ok (.putfield 43, 3) := by decide +kernel
theorem dX11_block_85 : decode cX11_block 85 = .ok (.aload_n 0, 1) := by decide +kernel
theorem dX11_block_86 : decode cX11_block 86 = .ok (.getfield 43, 3) := by decide +kernel
theorem dX11_block_89 : decode cX11_block 89 = .ok (.ifCond .le 6, 3) := by decide +kernel
theorem dX11_block_92 : decode cX11_block 92 = .ok (.bipush 32, 2) := by decide +kernel
theorem dX11_block_94 : decode cX11_block 94 = .ok (.ireturn, 1) := by decide +kernel
theorem dX11_block_95 : decode cX11_block 95 = .ok (.iconst 0, 1) := by decide +kernel
theorem dX11_block_96 : decode cX11_block 96 = .ok (.iload 4, 2) := by decide +kernel
theorem dX11_block_98 : decode cX11_block 98 = .ok (.iload 5, 2) := by decide +kernel
theorem dX11_block_100 : decode cX11_block 100 = .ok (.imul, 1) := by decide +kernel
theorem dX11_block_101 : decode cX11_block 101 = .ok (.iconst 1, 1) := by decide +kernel
theorem dX11_block_102 : decode cX11_block 102 = .ok (.isub, 1) := by decide +kernel
theorem dX11_block_103 : decode cX11_block 103 = .ok (.invokestatic 178, 3) := by decide +kernel
theorem dX11_block_106 : decode cX11_block 106 = .ok (.istore 7, 2) := by decide +kernel
theorem dX11_block_108 : decode cX11_block 108 = .ok (.iload 6, 2) := by decide +kernel
theorem dX11_block_110 : decode cX11_block 110 = .ok (.iload 4, 2) := by decide +kernel
theorem dX11_block_112 : decode cX11_block 112 = .ok (.iconst 1, 1) := by decide +kernel
theorem dX11_block_113 : decode cX11_block 113 = .ok (.iadd, 1) := by decide +kernel
theorem dX11_block_114 : decode cX11_block 114 = .ok (.iload 5, 2) := by decide +kernel
theorem dX11_block_116 : decode cX11_block 116 = .ok (.imul, 1) := by decide +kernel
theorem dX11_block_117 : decode cX11_block 117 = .ok (.invokestatic 170, 3) := by decide +kernel
theorem dX11_block_120 : decode cX11_block 120 = .ok (.istore 8, 2) := by decide +kernel
theorem dX11_block_122 : decode cX11_block 122 = .ok (.aload_n 0, 1) := by decide +kernel
theorem dX11_block_123 : decode cX11_block 123 = .ok (.iload_n 1, 1) := by decide +kernel
theorem dX11_block_124 : decode cX11_block 124 = .ok (.iload_n 2, 1) := by decide +kernel
theorem dX11_block_125 : decode cX11_block 125 = .ok (.iload 7, 2) := by decide +kernel
theorem dX11_block_127 : decode cX11_block 127 = .ok (.invokevirtual 133, 3) := by decide +kernel
theorem dX11_block_130 : decode cX11_block 130 = .ok (.istore 9, 2) := by decide +kernel
theorem dX11_block_132 : decode cX11_block 132 = .ok (.iload 7, 2) := by decide +kernel
theorem dX11_block_134 : decode cX11_block 134 = .ok (.istore 10, 2) := by decide +kernel
theorem dX11_block_136 : decode cX11_block 136 = .ok (.iload 10, 2) := by decide +kernel
theorem dX11_block_138 : decode cX11_block 138 = .ok (.iload 8, 2) := by decide +kernel
theorem dX11_block_140 : decode cX11_block 140 = .ok (.if_icmp .ge 25, 3) := by decide +kernel
theorem dX11_block_143 : decode cX11_block 143 = .ok (.aload_n 0, 1) := by decide +kernel
theorem dX11_block_144 : decode cX11_block 144 = .ok (.iload_n 1, 1) := by decide +kernel
theorem dX11_block_145 : decode cX11_block 145 = .ok (.iload_n 2, 1) := by decide +kernel
theorem dX11_block_146 : decode cX11_block 146 = .ok (.iload 10, 2) := by decide +kernel
theorem dX11_block_148 : decode cX11_block 148 = .ok (.invokevirtual 133, 3) := by decide +kernel
theorem dX11_block_151 : decode cX11_block 151 = .ok (.iload 9, 2) := by decide +kernel
theorem dX11_block_153 : decode cX11_block 153 = .ok (.if_icmp .eq 6, 3) := by decide +kernel
theorem dX11_block_156 : decode cX11_block 156 = .ok (.bipush 120, 2) := by decide +kernel
theorem dX11_block_158 : decode cX11_block 158 = .ok (.ireturn, 1) := by decide +kernel
theorem dX11_block_159 : decode cX11_block 159 = .ok (.iinc 10 1, 3) := by decide +kernel
theorem dX11_block_162 : decode cX11_block 162 = .ok (.goto (-26), 3) := by decide +kernel
theorem dX11_block_165 : decode cX11_block 165 = .ok (.iload 9, 2) := by decide +kernel
theorem dX11_block_167 : decode cX11_block 167 = .ok (.ifCond .eq 8, 3) := by decide +kernel
theorem dX11_block_170 : decode cX11_block 170 = .ok (.bipush 49, 2) := by decide +kernel
theorem dX11_block_172 : decode cX11_block 172 = .ok (.goto 5, 3) := by decide +kernel
theorem dX11_block_175 : decode cX11_block 175 = .ok (.bipush 48, 2) := by decide +kernel
theorem dX11_block_177 : decode cX11_block 177 = .ok (.ireturn, 1) := by decide +kernel
theorem dX11_step_0 : decode cX11_step 0 = .ok (.iload_n 1, 1) := by decide +kernel
theorem dX11_step_1 : decode cX11_step 1 = .ok (.bipush 112, 2) := by decide +kernel
theorem dX11_step_3 : decode cX11_step 3 = .ok (.if_icmp .eq 9, 3) := by decide +kernel
theorem dX11_step_6 : decode cX11_step 6 = .ok (.iload_n 1, 1) := by decide +kernel
theorem dX11_step_7 : decode cX11_step 7 = .ok (.bipush 116, 2) := by decide +kernel
theorem dX11_step_9 : decode cX11_step 9 = .ok (.if_icmp .ne 7, 3) := by decide +kernel
theorem dX11_step_12 : decode cX11_step 12 = .ok (.iconst 1, 1) := by decide +kernel
theorem dX11_step_13 : decode cX11_step 13 = .ok (.goto 4, 3) := by decide +kernel
theorem dX11_step_16 : decode cX11_step 16 = .ok (.iconst 0, 1) := by decide +kernel
theorem dX11_step_17 : decode cX11_step 17 = .ok (.istore 4, 2) := by decide +kernel
theorem dX11_step_19 : decode cX11_step 19 = .ok (.aload_n 0, 1) := by decide +kernel
theorem dX11_step_20 : decode cX11_step 20 = .ok (.iload 4, 2) := by decide +kernel
theorem dX11_step_22 : decode cX11_step 22 = .ok (.ifCond .ne 10, 3) := by decide +kernel
theorem dX11_step_25 : decode cX11_step 25 = .ok (.iload_n 2, 1) := by decide +kernel
theorem dX11_step_26 : decode cX11_step 26 = .ok (.invokestatic 53, 3) := by decide +kernel
theorem dX11_step_29 : decode cX11_step 29 = .ok (.ifCond .eq 7, 3) := by decide +kernel
theorem dX11_step_32 : decode cX11_step 32 = .ok (.iconst 0, 1) := by decide +kernel
theorem dX11_step_33 : decode cX11_step 33 = .ok (.goto 4, 3) := by decide +kernel
theorem dX11_step_36 : decode cX11_step 36 = .ok (.iconst 1, 1) := by decide +kernel
theorem dX11_step_37 : decode cX11_step 37 = .ok (.putfield 43, 3) := by decide +kernel
theorem dX11_step_40 : decode cX11_step 40 = .ok (.aload_n 0, 1) := by decide +kernel
theorem dX11_step_41 : decode cX11_step 41 = .ok (.getfield 43, 3) := by decide +kernel
theorem dX11_step_44 : decode cX11_step 44 = .ok (.ifCond .le 5, 3) := by decide +kernel
theorem dX11_step_47 : decode cX11_step 47 = .ok (.iconst 0, 1) := by decide +kernel
theorem dX11_step_48 : decode cX11_step 48 = .ok (.ireturn, 1) := by decide +kernel
theorem dX11_step_49 : decode cX11_step 49 = .ok (.ldc 181, 2) := by decide +kernel
theorem dX11_step_51 : decode cX11_step 51 = .ok (.iload_n 1, 1) := by decide +kernel
theorem dX11_step_52 : decode cX11_step 52 = .ok (.invokevirtual 183, 3) := by decide +kernel
theorem dX11_step_55 : decode cX11_step 55 = .ok (.ifCond .lt 15, 3) := by decide +kernel
theorem dX11_step_58 : decode cX11_step 58 = .ok (.iload_n 3, 1) := by decide +kernel
theorem dX11_step_59 : decode cX11_step 59 = .ok (.i2l, 1) := by decide +kernel
theorem dX11_step_60 : decode cX11_step 60 = .ok (.lconst 1, 1) := by decide +kernel
theorem dX11_step_61 : decode cX11_step 61 = .ok (.ldc2_w 131, 3) := by decide +kernel
theorem dX11_step_64 : decode cX11_step 64 = .ok (.invokestatic 49, 3) := by decide +kernel
theorem dX11_step_67 : decode cX11_step 67 = .ok (.ifCond .ne 21, 3) := by decide +kernel
theorem dX11_step_70 : decode cX11_step 70 = .ok (.iload_n 1, 1) := by decide +kernel
theorem dX11_step_71 : decode cX11_step 71 = .ok (.bipush 112, 2) := by decide +kernel
theorem dX11_step_73 : decode cX11_step 73 = .ok (.if_icmp .ne 19, 3) := by decide +kernel
theorem dX11_step_76 : decode cX11_step 76 = .ok (.iload_n 3, 1) := by decide +kernel
theorem dX11_step_77 : decode cX11_step 77 = .ok (.i2l, 1) := by decide +kernel
theorem dX11_step_78 : decode cX11_step 78 = .ok (.lconst 0, 1) := by decide +kernel
theorem dX11_step_79 : decode cX11_step 79 = .ok (.ldc2_w 126, 3) := by decide +kernel
theorem dX11_step_82 : decode cX11_step 82 = .ok (.invokestatic 49, 3) := by decide +kernel
theorem dX11_step_85 : decode cX11_step 85 = .ok (.ifCond .eq 7, 3) := by decide +kernel
theorem dX11_step_88 : decode cX11_step 88 = .ok (.iconst 1, 1) := by decide +kernel
theorem dX11_step_89 : decode cX11_step 89 = .ok (.goto 4, 3) := by decide +kernel
theorem dX11_step_92 : decode cX11_step 92 = .ok (.iconst 0, 1) := by decide +kernel
theorem dX11_step_93 : decode cX11_step 93 = .ok (.istore 5, 2) := by decide +kernel
theorem dX11_step_95 : decode cX11_step 95 = .ok (.aload_n 0, 1) := by decide +kernel
theorem dX11_step_96 : decode cX11_step 96 = .ok (.iload 5, 2) := by decide +kernel
theorem dX11_step_98 : decode cX11_step 98 = .ok (.ifCond .ne 7, 3) := by decide +kernel
theorem dX11_step_101 : decode cX11_step 101 = .ok (.iconst 2, 1) := by decide +kernel
theorem dX11_step_102 : decode cX11_step 102 = .ok (.goto 20, 3) := by decide +kernel
theorem dX11_step_105 : decode cX11_step 105 = .ok (.aload_n 0, 1) := by decide +kernel
theorem dX11_step_106 : decode cX11_step 106 = .ok (.getfield 33, 3) := by decide +kernel
theorem dX11_step_109 : decode cX11_step 109 = .ok (.invokevirtual 148, 3) := by decide +kernel
theorem dX11_step_112 : decode cX11_step 112 = .ok (.bipush 6, 2) := by decide +kernel
theorem dX11_step_114 : decode cX11_step 114 = .ok (.if_icmp .ne 7, 3) := by decide +kernel
theorem dX11_step_117 : decode cX11_step 117 = .ok (.iconst 3, 1) := by decide +kernel
theorem dX11_step_118 : decode cX11_step 118 = .ok (.goto 4, 3) := by decide +kernel
theorem dX11_step_121 : decode cX11_step 121 = .ok (.iconst 0, 1) := by decide +kernel
theorem dX11_step_122 : decode cX11_step 122 = .ok (.putfield 43, 3) := by decide +kernel
theorem dX11_step_125 : decode cX11_step 125 = .ok (.aload_n 0, 1) := by decide +kernel
theorem dX11_step_126 : decode cX11_step 126 = .ok (.getfield 43, 3) := by decide +kernel
theorem dX11_step_129 : decode cX11_step 129 = .ok (.ifCond .le 5, 3) := by decide +kernel
theorem dX11_step_132 : decode cX11_step 132 = .ok (.iconst 0, 1) := by decide +kernel
theorem dX11_step_133 : decode cX11_step 133 = .ok (.ireturn, 1) := by decide +kernel
theorem dX11_step_134 : decode cX11_step 134 = .ok (.aload_n 0, 1) := by decide +kernel
theorem dX11_step_135 : decode cX11_step 135 = .ok (.getfield 33, 3) := by decide +kernel
theorem dX11_step_138 : decode cX11_step 138 = .ok (.new 188, 3) := by decide +kernel
theorem dX11_step_141 : decode cX11_step 141 = .ok (.dup, 1) := by decide +kernel
theorem dX11_step_142 : decode cX11_step 142 = .ok (.iload_n 1, 1) := by decide +kernel
theorem dX11_step_143 : decode cX11_step 143 = .ok (.iload_n 2, 1) := by decide +kernel
theorem dX11_step_144 : decode cX11_step 144 = .ok (.iload_n 3, 1) := by decide +kernel
theorem dX11_step_145 : decode cX11_step 145 = .ok (.invokespecial 190, 3) := by decide +kernel
theorem dX11_step_148 : decode cX11_step 148 = .ok (.invokevirtual 144, 3) := by decide +kernel
theorem dX11_step_151 : decode cX11_step 151 = .ok (.pop, 1) := by decide +kernel
theorem dX11_step_152 : decode cX11_step 152 = .ok (.aload_n 0, 1) := by decide +kernel
theorem dX11_step_153 : decode cX11_step 153 = .ok (.getfield 33, 3) := by decide +kernel
theorem dX11_step_156 : decode cX11_step 156 = .ok (.invokevirtual 148, 3) := by decide +kernel
theorem dX11_step_159 : decode cX11_step 159 = .ok (.ireturn, 1) := by decide +kernel
theorem dX11_reset_0 : decode cX11_reset 0 = .ok (.aload_n 0, 1) := by decide +kernel
theorem dX11_reset_1 : decode cX11_reset 1 = .ok (.iconst 0, 1) := by decide +kernel
theorem dX11_reset_2 : decode cX11_reset 2 = .ok (.putfield 43, 3) := by decide +kernel
theorem dX11_reset_5 : decode cX11_reset 5 = .ok (.aload_n 0, 1) := by decide +kernel
theorem dX11_reset_6 : decode cX11_reset 6 = .ok (.getfield 33, 3) := by decide +kernel
theorem dX11_reset_9 : decode cX11_reset 9 = .ok (.invokevirtual 148, 3) := by decide +kernel
theorem dX11_reset_12 : decode cX11_reset 12 = .ok (.istore_n 1, 1) := by decide +kernel
theorem dX11_reset_13 : decode cX11_reset 13 = .ok (.aload_n 0, 1) := by decide +kernel
theorem dX11_reset_14 : decode cX11_reset 14 = .ok (.getfield 33, 3) := by decide +kernel
theorem dX11_reset_17 : decode cX11_reset 17 = .ok (.invokevirtual 193, 3) := by decide +kernel
theorem dX11_reset_20 : decode cX11_reset 20 = .ok (.iload_n 1, 1) := by decide +kernel
theorem dX11_reset_21 : decode cX11_reset 21 = .ok (.ireturn, 1) := by decide +kernel
theorem dX11_meets_0 : decode cX11_meets 0 = .ok (.iconst 0, 1) := by decide +kernel
theorem dX11_meets_1 : decode cX11_meets 1 = .ok (.istore 4, 2) := by decide +kernel
theorem dX11_meets_3 : decode cX11_meets 3 = .ok (.iload_n 3, 1) := by decide +kernel
theorem dX11_meets_4 : decode cX11_meets 4 = .ok (.istore 5, 2) := by decide +kernel
theorem dX11_meets_6 : decode cX11_meets 6 = .ok (.iload 5, 2) := by decide +kernel
theorem dX11_meets_8 : decode cX11_meets 8 = .ok (.aload_n 0, 1) := by decide +kernel
theorem dX11_meets_9 : decode cX11_meets 9 = .ok (.getfield 27, 3) := by decide +kernel
theorem dX11_meets_12 : decode cX11_meets 12 = .ok (.iload_n 1, 1) := by decide +kernel
theorem dX11_meets_13 : decode cX11_meets 13 = .ok (.aaload, 1) := by decide +kernel
theorem dX11_meets_14 : decode cX11_meets 14 = .ok (.arraylength, 1) := by decide +kernel
theorem dX11_meets_15 : decode cX11_meets 15 = .ok (.if_icmp .ge 228, 3) := by decide +kernel
theorem dX11_meets_18 : decode cX11_meets 18 = .ok (.aload_n 2, 1) := by decide +kernel
theorem dX11_meets_19 : decode cX11_meets 19 = .ok (.getfield 196, 3) := by decide +kernel
theorem dX11_meets_22 : decode cX11_meets 22 = .ok (.tableswitch 175 102 116 #[101, 175, 128, 175, 175, 175, 128, 175, 175, 175, 175, 175, 74, 175, 169], 74) := by decide +kernel
theorem dX11_meets_96 : decode cX11_meets 96 = .ok (.iload 4, 2) := by decide +kernel
theorem dX11_meets_98 : decode cX11_meets 98 = .ok (.aload_n 0, 1) := by decide +kernel
theorem dX11_meets_99 : decode cX11_meets 99 = .ok (.iload_n 1, 1) := by decide +kernel
theorem dX11_meets_100 : decode cX11_meets 100 = .ok (.aload_n 2, 1) := by decide +kernel
theorem dX11_meets_101 : decode cX11_meets 101 = .ok (.getfield 200, 3) := by decide +kernel
theorem dX11_meets_104 : decode cX11_meets 104 = .ok (.iload 5, 2) := by decide +kernel
theorem dX11_meets_106 : decode cX11_meets 106 = .ok (.invokevirtual 203, 3) := by decide +kernel
theorem dX11_meets_109 : decode cX11_meets 109 = .ok (.ifCond .eq 7, 3) := by decide +kernel
theorem dX11_meets_112 : decode cX11_meets 112 = .ok (.iconst 1, 1) := by decide +kernel
theorem dX11_meets_113 : decode cX11_meets 113 = .ok (.goto 4, 3) := by decide +kernel
theorem dX11_meets_116 : decode cX11_meets 116 = .ok (.iconst 0, 1) := by decide +kernel
theorem dX11_meets_117 : decode cX11_meets 117 = .ok (.iadd, 1) := by decide +kernel
theorem dX11_meets_118 : decode cX11_meets 118 = .ok (.istore 4, 2) := by decide +kernel
theorem dX11_meets_120 : decode cX11_meets 120 = .ok (.goto 96, 3) := by decide +kernel
theorem dX11_meets_123 : decode cX11_meets 123 = .ok (.iload 4, 2) := by decide +kernel
theorem dX11_meets_125 : decode cX11_meets 125 = .ok (.aload_n 0, 1) := by decide +kernel
theorem dX11_meets_126 : decode cX11_meets 126 = .ok (.iload_n 1, 1) := by decide +kernel
theorem dX11_meets_127 : decode cX11_meets 127 = .ok (.aload_n 2, 1) := by decide +kernel
theorem dX11_meets_128 : decode cX11_meets 128 = .ok (.getfield 200, 3) := by decide +kernel
theorem dX11_meets_131 : decode cX11_meets 131 = .ok (.iload 5, 2) := by decide +kernel
theorem dX11_meets_133 : decode cX11_meets 133 = .ok (.invokevirtual 206, 3) := by decide +kernel
theorem dX11_meets_136 : decode cX11_meets 136 = .ok (.ifCond .eq 7, 3) := by decide +kernel
theorem dX11_meets_139 : decode cX11_meets 139 = .ok (.iconst 1, 1) := by decide +kernel
theorem dX11_meets_140 : decode cX11_meets 140 = .ok (.goto 4, 3) := by decide +kernel
theorem dX11_meets_143 : decode cX11_meets 143 = .ok (.iconst 0, 1) := by decide +kernel
theorem dX11_meets_144 : decode cX11_meets 144 = .ok (.iadd, 1) := by decide +kernel
theorem dX11_meets_145 : decode cX11_meets 145 = .ok (.istore 4, 2) := by decide +kernel
theorem dX11_meets_147 : decode cX11_meets 147 = .ok (.goto 69, 3) := by decide +kernel
theorem dX11_meets_150 : decode cX11_meets 150 = .ok (.aload_n 0, 1) := by decide +kernel
theorem dX11_meets_151 : decode cX11_meets 151 = .ok (.iload_n 1, 1) := by decide +kernel
theorem dX11_meets_152 : decode cX11_meets 152 = .ok (.aload_n 2, 1) := by decide +kernel
theorem dX11_meets_153 : decode cX11_meets 153 = .ok (.getfield 200, 3) := by decide +kernel
theorem dX11_meets_156 : decode cX11_meets 156 = .ok (.iload 5, 2) := by decide +kernel
theorem dX11_meets_158 : decode cX11_meets 158 = .ok (.invokevirtual 133, 3) := by decide +kernel
theorem dX11_meets_161 : decode cX11_meets 161 = .ok (.aload_n 2, 1) := by decide +kernel
theorem dX11_meets_162 : decode cX11_meets 162 = .ok (.getfield 196, 3) := by decide +kernel
theorem dX11_meets_165 : decode cX11_meets 165 = .ok (.bipush 104, 2) := by decide +kernel
theorem dX11_meets_167 : decode cX11_meets 167 = .ok (.if_icmp .ne 7, 3) := by decide +kernel
theorem dX11_meets_170 : decode cX11_meets 170 = .ok (.iconst 1, 1) := by decide +kernel
theorem dX11_meets_171 : decode cX11_meets 171 = .ok (.goto 4, 3) := by decide +kernel
theorem dX11_meets_174 : decode cX11_meets 174 = .ok (.iconst 0, 1) := by decide +kernel
theorem dX11_meets_175 : decode cX11_meets 175 = .ok (.if_icmp .ne 10, 3) := by decide +kernel
theorem dX11_meets_178 : decode cX11_meets 178 = .ok (.iload 4, 2) := by decide +kernel
theorem dX11_meets_180 : decode cX11_meets 180 = .ok (.iconst 1, 1) := by decide +kernel
theorem dX11_meets_181 : decode cX11_meets 181 = .ok (.iadd, 1) := by decide +kernel
theorem dX11_meets_182 : decode cX11_meets 182 = .ok (.goto 4, 3) := by decide +kernel
theorem dX11_meets_185 : decode cX11_meets 185 = .ok (.iconst 0, 1) := by decide +kernel
theorem dX11_meets_186 : decode cX11_meets 186 = .ok (.istore 4, 2) := by decide +kernel
theorem dX11_meets_188 : decode cX11_meets 188 = .ok (.goto 28, 3) := by decide +kernel
theorem dX11_meets_191 : decode cX11_meets 191 = .ok (.iinc 4 1, 3) := by decide +kernel
theorem dX11_meets_194 : decode cX11_meets 194 = .ok (.goto 22, 3) := by decide +kernel
theorem dX11_meets_197 : decode cX11_meets 197 = .ok (.aload_n 0, 1) := by decide +kernel
theorem dX11_meets_198 : decode cX11_meets 198 = .ok (.getfield 27, 3) := by decide +kernel
theorem dX11_meets_201 : decode cX11_meets 201 = .ok (.iload_n 1, 1) := by decide +kernel
theorem dX11_meets_202 : decode cX11_meets 202 = .ok (.aaload, 1) := by decide +kernel
theorem dX11_meets_203 : decode cX11_meets 203 = .ok (.iload 5, 2) := by decide +kernel
theorem dX11_meets_205 : decode cX11_meets 205 = .ok (.iaload, 1) := by decide +kernel
theorem dX11_meets_206 : decode cX11_meets 206 = .ok (.aload_n 2, 1) := by decide +kernel
theorem dX11_meets_207 : decode cX11_meets 207 = .ok (.getfield 209, 3) := by decide +kernel
theorem dX11_meets_210 : decode cX11_meets 210 = .ok (.if_icmp .ne 6, 3) := by decide +kernel
theorem dX11_meets_213 : decode cX11_meets 213 = .ok (.iload 5, 2) := by decide +kernel
theorem dX11_meets_215 : decode cX11_meets 215 = .ok (.ireturn, 1) := by decide +kernel
theorem dX11_meets_216 : decode cX11_meets 216 = .ok (.aload_n 2, 1) := by decide +kernel
theorem dX11_meets_217 : decode cX11_meets 217 = .ok (.getfield 196, 3) := by decide +kernel
theorem dX11_meets_220 : decode cX11_meets 220 = .ok (.bipush 112, 2) := by decide +kernel
theorem dX11_meets_222 : decode cX11_meets 222 = .ok (.if_icmp .eq 15, 3) := by decide +kernel
theorem dX11_meets_225 : decode cX11_meets 225 = .ok (.iload 4, 2) := by decide +kernel
theorem dX11_meets_227 : decode cX11_meets 227 = .ok (.aload_n 2, 1) := by decide +kernel
theorem dX11_meets_228 : decode cX11_meets 228 = .ok (.getfield 209, 3) := by decide +kernel
theorem dX11_meets_231 : decode cX11_meets 231 = .ok (.if_icmp .ne 6, 3) := by decide +kernel
theorem dX11_meets_234 : decode cX11_meets 234 = .ok (.iload 5, 2) := by decide +kernel
theorem dX11_meets_236 : decode cX11_meets 236 = .ok (.ireturn, 1) := by decide +kernel
theorem dX11_meets_237 : decode cX11_meets 237 = .ok (.iinc 5 1, 3) := by decide +kernel
theorem dX11_meets_240 : decode cX11_meets 240 = .ok (.goto (-234), 3) := by decide +kernel
theorem dX11_meets_243 : decode cX11_meets 243 = .ok (.iconst (-1), 1) := by decide +kernel
theorem dX11_meets_244 : decode cX11_meets 244 = .ok (.ireturn, 1) := by decide +kernel
theorem dX11_trigger_0 : decode cX11_trigger 0 = .ok (.aload_n 0, 1) := by decide +kernel
theorem dX11_trigger_1 : decode cX11_trigger 1 = .ok (.iload_n 1, 1) := by decide +kernel
theorem dX11_trigger_2 : decode cX11_trigger 2 = .ok (.invokevirtual 128, 3) := by decide +kernel
theorem dX11_trigger_5 : decode cX11_trigger 5 = .ok (.ifCond .eq 5, 3) := by decide +kernel
theorem dX11_trigger_8 : decode cX11_trigger 8 = .ok (.iconst 0, 1) := by decide +kernel
theorem dX11_trigger_9 : decode cX11_trigger 9 = .ok (.ireturn, 1) := by decide +kernel
theorem dX11_trigger_10 : decode cX11_trigger 10 = .ok (.aload_n 0, 1) := by decide +kernel
theorem dX11_trigger_11 : decode cX11_trigger 11 = .ok (.aload_n 0, 1) := by decide +kernel
theorem dX11_trigger_12 : decode cX11_trigger 12 = .ok (.getfield 33, 3) := by decide +kernel
theorem dX11_trigger_15 : decode cX11_trigger 15 = .ok (.invokevirtual 212, 3) := by decide +kernel
theorem dX11_trigger_18 : decode cX11_trigger 18 = .ok (.ifCond .eq 7, 3) := by decide +kernel
theorem dX11_trigger_21 : decode cX11_trigger 21 = .ok (.iconst 2, 1) := by decide +kernel
theorem dX11_trigger_22 : decode cX11_trigger 22 = .ok (.goto 4, 3) := by decide +kernel
theorem dX11_trigger_25 : decode cX11_trigger 25 = .ok (.iconst 0, 1) := by decide +kernel
theorem dX11_trigger_26 : decode cX11_trigger 26 = .ok (.putfield 43, 3) := by decide +kernel
theorem dX11_trigger_29 : decode cX11_trigger 29 = .ok (.iconst (-1), 1) := by decide +kernel
theorem dX11_trigger_30 : decode cX11_trigger 30 = .ok (.istore_n 2, 1) := by decide +kernel
theorem dX11_trigger_31 : decode cX11_trigger 31 = .ok (.aload_n 0, 1) := by decide +kernel
theorem dX11_trigger_32 : decode cX11_trigger 32 = .ok (.getfield 33, 3) := by decide +kernel
theorem dX11_trigger_35 : decode cX11_trigger 35 = .ok (.invokevirtual 216, 3) := by decide +kernel
theorem dX11_trigger_38 : decode cX11_trigger 38 = .ok (.astore_n 3, 1) := by decide +kernel
theorem dX11_trigger_39 : decode cX11_trigger 39 = .ok (.aload_n 3, 1) := by decide +kernel
theorem dX11_trigger_40 : decode cX11_trigger 40 = .ok (.invokeinterface 220 1, 5) := by decide +kernel
theorem dX11_trigger_45 : decode cX11_trigger 45 = .ok (.ifCond .eq 40, 3) := by decide +kernel
theorem dX11_trigger_48 : decode cX11_trigger 48 = .ok (.aload_n 3, 1) := by decide +kernel
theorem dX11_trigger_49 : decode cX11_trigger 49 = .ok (.invokeinterface 225 1, 5) := by decide +kernel
theorem dX11_trigger_54 : decode cX11_trigger 54 = .ok (.checkcast 188, 3) := by decide +kernel
theorem dX11_trigger_57 : decode cX11_trigger 57 = .ok (.astore 4, 2) := by decide +kernel
theorem dX11_trigger_59 : decode cX11_trigger 59 = .ok (.aload_n 0, 1) := by decide +kernel
theorem dX11_trigger_60 : decode cX11_trigger 60 = .ok (.iload_n 1, 1) := by decide +kernel
theorem dX11_trigger_61 : decode cX11_trigger 61 = .ok (.aload 4, 2) := by decide +kernel
theorem dX11_trigger_63 : decode cX11_trigger 63 = .ok (.iload_n 2, 1) := by decide +kernel
theorem dX11_trigger_64 : decode cX11_trigger 64 = .ok (.iconst 1, 1) := by decide +kernel
theorem dX11_trigger_65 : decode cX11_trigger 65 = .ok (.iadd, 1) := by decide +kernel
theorem dX11_trigger_66 : decode cX11_trigger 66 = .ok (.invokevirtual 228, 3) := by decide +kernel
theorem dX11_trigger_69 : decode cX11_trigger 69 = .ok (.istore_n 2, 1) := by decide +kernel
theorem dX11_trigger_70 : decode cX11_trigger 70 = .ok (.iload_n 2, 1) := by decide +kernel
theorem dX11_trigger_71 : decode cX11_trigger 71 = .ok (.iconst (-1), 1) := by decide +kernel
theorem dX11_trigger_72 : decode cX11_trigger 72 = .ok (.if_icmp .ne 10, 3) := by decide +kernel
theorem dX11_trigger_75 : decode cX11_trigger 75 = .ok (.aload_n 0, 1) := by decide +kernel
theorem dX11_trigger_76 : decode cX11_trigger 76 = .ok (.iconst 3, 1) := by decide +kernel
theorem dX11_trigger_77 : decode cX11_trigger 77 = .ok (.putfield 43, 3) := by decide +kernel
theorem dX11_trigger_80 : decode cX11_trigger 80 = .ok (.iconst 0, 1) := by decide +kernel
theorem dX11_trigger_81 : decode cX11_trigger 81 = .ok (.ireturn, 1) := by decide +kernel
theorem dX11_trigger_82 : decode cX11_trigger 82 = .ok (.goto (-43), 3) := by decide +kernel
theorem dX11_trigger_85 : decode cX11_trigger 85 = .ok (.aload_n 0, 1) := by decide +kernel
theorem dX11_trigger_86 : decode cX11_trigger 86 = .ok (.getfield 43, 3) := by decide +kernel
theorem dX11_trigger_89 : decode cX11_trigger 89 = .ok (.ifCond .le 7, 3) := by decide +kernel
theorem dX11_trigger_92 : decode cX11_trigger 92 = .ok (.iconst 0, 1) := by decide +kernel
theorem dX11_trigger_93 : decode cX11_trigger 93 = .ok (.goto 4, 3) := by decide +kernel
theorem dX11_trigger_96 : decode cX11_trigger 96 = .ok (.iload_n 2, 1) := by decide +kernel
theorem dX11_trigger_97 : decode cX11_trigger 97 = .ok (.ireturn, 1) := by decide +kernel
theorem dX11_notes_0 : decode cX11_notes 0 = .ok (.aload_n 0, 1) := by decide +kernel
theorem dX11_notes_1 : decode cX11_notes 1 = .ok (.getfield 37, 3) := by decide +kernel
theorem dX11_notes_4 : decode cX11_notes 4 = .ok (.invokevirtual 148, 3) := by decide +kernel
theorem dX11_notes_7 : decode cX11_notes 7 = .ok (.sipush 200, 3) := by decide +kernel
theorem dX11_notes_10 : decode cX11_notes 10 = .ok (.if_icmp .ge 25, 3) := by decide +kernel
theorem dX11_notes_13 : decode cX11_notes 13 = .ok (.aload_n 0, 1) := by decide +kernel
theorem dX11_notes_14 : decode cX11_notes 14 = .ok (.getfield 37, 3) := by decide +kernel
theorem dX11_notes_17 : decode cX11_notes 17 = .ok (.new 232, 3) := by decide +kernel
theorem dX11_notes_20 : decode cX11_notes 20 = .ok (.dup, 1) := by decide +kernel
theorem dX11_notes_21 : decode cX11_notes 21 = .ok (.iload_n 1, 1) := by decide +kernel
theorem dX11_notes_22 : decode cX11_notes 22 = .ok (.iload_n 2, 1) := by decide +kernel
theorem dX11_notes_23 : decode cX11_notes 23 = .ok (.iload_n 3, 1) := by decide +kernel
theorem dX11_notes_24 : decode cX11_notes 24 = .ok (.iload 4, 2) := by decide +kernel
theorem dX11_notes_26 : decode cX11_notes 26 = .ok (.iload 5, 2) := by decide +kernel
theorem dX11_notes_28 : decode cX11_notes 28 = .ok (.invokespecial 234, 3) := by decide +kernel
theorem dX11_notes_31 : decode cX11_notes 31 = .ok (.invokevirtual 144, 3) := by decide +kernel
theorem dX11_notes_34 : decode cX11_notes 34 = .ok (.pop, 1) := by decide +kernel
theorem dX11_notes_35 : decode cX11_notes 35 = .ok (.return_, 1) := by decide +kernel
theorem dX11_decodeSerial_0 : decode cX11_decodeSerial 0 = .ok (.aload_n 0, 1) := by decide +kernel
theorem dX11_decodeSerial_1 : decode cX11_decodeSerial 1 = .ok (.iload_n 1, 1) := by decide +kernel
theorem dX11_decodeSerial_2 : decode cX11_decodeSerial 2 = .ok (.iload_n 2, 1) := by decide +kernel
theorem dX11_decodeSerial_3 : decode cX11_decodeSerial 3 = .ok (.invokevirtual 163, 3) := by decide +kernel
theorem dX11_decodeSerial_6 : decode cX11_decodeSerial 6 = .ok (.ifCond .eq 5, 3) := by decide +kernel
theorem dX11_decodeSerial_9 : decode cX11_decodeSerial 9 = .ok (.iconst 0, 1) := by decide +kernel
theorem dX11_decodeSerial_10 : decode cX11_decodeSerial 10 = .ok (.ireturn, 1) := by decide +kernel
theorem dX11_decodeSerial_11 : decode cX11_decodeSerial 11 = .ok (.aload_n 0, 1) := by decide +kernel
theorem dX11_decodeSerial_12 : decode cX11_decodeSerial 12 = .ok (.iload_n 3, 1) := by decide +kernel
theorem dX11_decodeSerial_13 : decode cX11_decodeSerial 13 = .ok (.i2l, 1) := by decide +kernel
theorem dX11_decodeSerial_14 : decode cX11_decodeSerial 14 = .ok (.ldc2_w 237, 3) := by decide +kernel
theorem dX11_decodeSerial_17 : decode cX11_decodeSerial 17 = .ok (.ldc2_w 239, 3) := by decide +kernel
theorem dX11_decodeSerial_20 : decode cX11_decodeSerial 20 = .ok (.invokestatic 49, 3) := by decide +kernel
theorem dX11_decodeSerial_23 : decode cX11_decodeSerial 23 = .ok (.ifCond .eq 15, 3) := by decide +kernel
theorem dX11_decodeSerial_26 : decode cX11_decodeSerial 26 = .ok (.iload 4, 2) := by decide +kernel
theorem dX11_decodeSerial_28 : decode cX11_decodeSerial 28 = .ok (.invokestatic 100, 3) := by decide +kernel
theorem dX11_decodeSerial_31 : decode cX11_decodeSerial 31 = .ok (.ifCond .eq 7, 3) := by decide +kernel
theorem dX11_decodeSerial_34 : decode cX11_decodeSerial 34 = .ok (.iconst 0, 1) := by decide +kernel
theorem dX11_decodeSerial_35 : decode cX11_decodeSerial 35 = .ok (.goto 4, 3) := by decide +kernel
theorem dX11_decodeSerial_38 : decode cX11_decodeSerial 38 = .ok (.iconst 2, 1) := by decide +kernel
theorem dX11_decodeSerial_39 : decode cX11_decodeSerial 39 = .ok (.putfield 43, 3) := by decide +kernel
theorem dX11_decodeSerial_42 : decode cX11_decodeSerial 42 = .ok (.aload_n 0, 1) := by decide +kernel
theorem dX11_decodeSerial_43 : decode cX11_decodeSerial 43 = .ok (.getfield 43, 3) := by decide +kernel
theorem dX11_decodeSerial_46 : decode cX11_decodeSerial 46 = .ok (.ifCond .le 5, 3) := by decide +kernel
theorem dX11_decodeSerial_49 : decode cX11_decodeSerial 49 = .ok (.iconst 0, 1) := by decide +kernel
theorem dX11_decodeSerial_50 : decode cX11_decodeSerial 50 = .ok (.ireturn, 1) := by decide +kernel
theorem dX11_decodeSerial_51 : decode cX11_decodeSerial 51 = .ok (.aload_n 0, 1) := by decide +kernel
theorem dX11_decodeSerial_52 : decode cX11_decodeSerial 52 = .ok (.getfield 37, 3) := by decide +kernel
theorem dX11_decodeSerial_55 : decode cX11_decodeSerial 55 = .ok (.invokevirtual 193, 3) := by decide +kernel
theorem dX11_decodeSerial_58 : decode cX11_decodeSerial 58 = .ok (.aload_n 0, 1) := by decide +kernel
theorem dX11_decodeSerial_59 : decode cX11_decodeSerial 59 = .ok (.getfield 27, 3) := by decide +kernel
theorem dX11_decodeSerial_62 : decode cX11_decodeSerial 62 = .ok (.iload_n 1, 1) := by decide +kernel
theorem dX11_decodeSerial_63 : decode cX11_decodeSerial 63 = .ok (.aaload, 1) := by decide +kernel
theorem dX11_decodeSerial_64 : decode cX11_decodeSerial 64 = .ok (.arraylength, 1) := by decide +kernel
theorem dX11_decodeSerial_65 : decode cX11_decodeSerial 65 = .ok (.istore 5, 2) := by decide +kernel
theorem dX11_decodeSerial_67 : decode cX11_decodeSerial 67 = .ok (.iload 4, 2) := by decide +kernel
theorem dX11_decodeSerial_69 : decode cX11_decodeSerial 69 = .ok (.bipush 110, 2) := by decide +kernel
theorem dX11_decodeSerial_71 : decode cX11_decodeSerial 71 = .ok (.if_icmp .ne 8, 3) := by decide +kernel
theorem dX11_decodeSerial_74 : decode cX11_decodeSerial 74 = .ok (.bipush 10, 2) := by decide +kernel
theorem dX11_decodeSerial_76 : decode cX11_decodeSerial 76 = .ok (.goto 5, 3) := by decide +kernel
theorem dX11_decodeSerial_79 : decode cX11_decodeSerial 79 = .ok (.bipush 11, 2) := by decide +kernel
theorem dX11_decodeSerial_81 : decode cX11_decodeSerial 81 = .ok (.istore 6, 2) := by decide +kernel
theorem dX11_decodeSerial_83 : decode cX11_decodeSerial 83 = .ok (.iconst 1, 1) := by decide +kernel
theorem dX11_decodeSerial_84 : decode cX11_decodeSerial 84 = .ok (.istore 7, 2) := by decide +kernel
theorem dX11_decodeSerial_86 : decode cX11_decodeSerial 86 = .ok (.iload 7, 2) := by decide +kernel
theorem dX11_decodeSerial_88 : decode cX11_decodeSerial 88 = .ok (.iload 5, 2) := by decide +kernel
theorem dX11_decodeSerial_90 : decode cX11_decodeSerial 90 = .ok (.if_icmp .ge 236, 3) := by decide +kernel
theorem dX11_decodeSerial_93 : decode cX11_decodeSerial 93 = .ok (.iload 7, 2) := by decide +kernel
theorem dX11_decodeSerial_95 : decode cX11_decodeSerial 95 = .ok (.iconst 2, 1) := by decide +kernel
theorem dX11_decodeSerial_96 : decode cX11_decodeSerial 96 = .ok (.iload 6, 2) := by decide +kernel
theorem dX11_decodeSerial_98 : decode cX11_decodeSerial 98 = .ok (.imul, 1) := by decide +kernel
theorem dX11_decodeSerial_99 : decode cX11_decodeSerial 99 = .ok (.iconst 1, 1) := by decide +kernel
theorem dX11_decodeSerial_100 : decode cX11_decodeSerial 100 = .ok (.isub, 1) := by decide +kernel
theorem dX11_decodeSerial_101 : decode cX11_decodeSerial 101 = .ok (.iload_n 3, 1) := by decide +kernel
theorem dX11_decodeSerial_102 : decode cX11_decodeSerial 102 = .ok (.imul, 1) := by decide +kernel
theorem dX11_decodeSerial_103 : decode cX11_decodeSerial 103 = .ok (.bipush 20, 2) := by decide +kernel
theorem dX11_decodeSerial_105 : decode cX11_decodeSerial 105 = .ok (.idiv, 1) := by decide +kernel
theorem dX11_decodeSerial_106 : decode cX11_decodeSerial 106 = .ok (.iadd, 1) := by decide +kernel
theorem dX11_decodeSerial_107 : decode cX11_decodeSerial 107 = .ok (.istore 8, 2) := by decide +kernel
theorem dX11_decodeSerial_109 : decode cX11_decodeSerial 109 = .ok (.iload 7, 2) := by decide +kernel
theorem dX11_decodeSerial_111 : decode cX11_decodeSerial 111 = .ok (.iload_n 3, 1) := by decide +kernel
theorem dX11_decodeSerial_112 : decode cX11_decodeSerial 112 = .ok (.bipush 20, 2) := by decide +kernel
theorem dX11_decodeSerial_114 : decode cX11_decodeSerial 114 = .ok (.idiv, 1) := by decide +kernel
theorem dX11_decodeSerial_115 : decode cX11_decodeSerial 115 = .ok (.iadd, 1) := by decide +kernel
theorem dX11_decodeSerial_116 : decode cX11_decodeSerial 116 = .ok (.istore 9, 2) := by decide +kernel
theorem dX11_decodeSerial_118 : decode cX11_decodeSerial 118 = .ok (.aload_n 0, 1) := by decide +kernel
theorem dX11_decodeSerial_119 : decode cX11_decodeSerial 119 = .ok (.iload_n 1, 1) := by decide +kernel
theorem dX11_decodeSerial_120 : decode cX11_decodeSerial 120 = .ok (.iload_n 2, 1) := by decide +kernel
theorem dX11_decodeSerial_121 : decode cX11_decodeSerial 121 = .ok (.iload 7, 2) := by decide +kernel
theorem dX11_decodeSerial_123 : decode cX11_decodeSerial 123 = .ok (.invokevirtual 206, 3) := by decide +kernel
theorem dX11_decodeSerial_126 : decode cX11_decodeSerial 126 = .ok (.ifCond .eq 194, 3) := by decide +kernel
theorem dX11_decodeSerial_129 : decode cX11_decodeSerial 129 = .ok (.iload 8, 2) := by decide +kernel
theorem dX11_decodeSerial_131 : decode cX11_decodeSerial 131 = .ok (.iload 5, 2) := by decide +kernel
theorem dX11_decodeSerial_133 : decode cX11_decodeSerial 133 = .ok (.if_icmp .ge 187, 3) := by decide +kernel
theorem dX11_decodeSerial_136 : decode cX11_decodeSerial 136 = .ok (.aload_n 0, 1) := by decide +kernel
theorem dX11_decodeSerial_137 : decode cX11_decodeSerial 137 = .ok (.iload_n 1, 1) := by decide +kernel
theorem dX11_decodeSerial_138 : decode cX11_decodeSerial 138 = .ok (.iload_n 2, 1) := by decide +kernel
theorem dX11_decodeSerial_139 : decode cX11_decodeSerial 139 = .ok (.iload 9, 2) := by decide +kernel
theorem dX11_decodeSerial_141 : decode cX11_decodeSerial 141 = .ok (.invokevirtual 133, 3) := by decide +kernel
theorem dX11_decodeSerial_144 : decode cX11_decodeSerial 144 = .ok (.ifCond .ne 176, 3) := by decide +kernel
theorem dX11_decodeSerial_147 : decode cX11_decodeSerial 147 = .ok (.iconst 0, 1) := by decide +kernel
theorem dX11_decodeSerial_148 : decode cX11_decodeSerial 148 = .ok (.istore 10, 2) := by decide +kernel
theorem dX11_decodeSerial_150 : decode cX11_decodeSerial 150 = .ok (.iconst 0, 1) := by decide +kernel
theorem dX11_decodeSerial_151 : decode cX11_decodeSerial 151 = .ok (.istore 11, 2) := by decide +kernel
theorem dX11_decodeSerial_153 : decode cX11_decodeSerial 153 = .ok (.iconst 1, 1) := by decide +kernel
theorem dX11_decodeSerial_154 : decode cX11_decodeSerial 154 = .ok (.istore 12, 2) := by decide +kernel
theorem dX11_decodeSerial_156 : decode cX11_decodeSerial 156 = .ok (.iload 12, 2) := by decide +kernel
theorem dX11_decodeSerial_158 : decode cX11_decodeSerial 158 = .ok (.iload 6, 2) := by decide +kernel
theorem dX11_decodeSerial_160 : decode cX11_decodeSerial 160 = .ok (.iconst 1, 1) := by decide +kernel
theorem dX11_decodeSerial_161 : decode cX11_decodeSerial 161 = .ok (.isub, 1) := by decide +kernel
theorem dX11_decodeSerial_162 : decode cX11_decodeSerial 162 = .ok (.if_icmp .ge 73, 3) := by decide +kernel
theorem dX11_decodeSerial_165 : decode cX11_decodeSerial 165 = .ok (.aload_n 0, 1) := by decide +kernel
theorem dX11_decodeSerial_166 : decode cX11_decodeSerial 166 = .ok (.iload_n 1, 1) := by decide +kernel
theorem dX11_decodeSerial_167 : decode cX11_decodeSerial 167 = .ok (.iload_n 2, 1) := by decide +kernel
theorem dX11_decodeSerial_168 : decode cX11_decodeSerial 168 = .ok (.iload 7, 2) := by decide +kernel
theorem dX11_decodeSerial_170 : decode cX11_decodeSerial 170 = .ok (.iconst 2, 1) := by decide +kernel
theorem dX11_decodeSerial_171 : decode cX11_decodeSerial 171 = .ok (.iload 12, 2) := by decide +kernel
theorem dX11_decodeSerial_173 : decode cX11_decodeSerial 173 = .ok (.imul, 1) := by decide +kernel
theorem dX11_decodeSerial_174 : decode cX11_decodeSerial 174 = .ok (.iconst 1, 1) := by decide +kernel
theorem dX11_decodeSerial_175 : decode cX11_decodeSerial 175 = .ok (.iadd, 1) := by decide +kernel
theorem dX11_decodeSerial_176 : decode cX11_decodeSerial 176 = .ok (.iload_n 3, 1) := by decide +kernel
theorem dX11_decodeSerial_177 : decode cX11_decodeSerial 177 = .ok (.imul, 1) := by decide +kernel
theorem dX11_decodeSerial_178 : decode cX11_decodeSerial 178 = .ok (.bipush 20, 2) := by decide +kernel
theorem dX11_decodeSerial_180 : decode cX11_decodeSerial 180 = .ok (.idiv, 1) := by decide +kernel
theorem dX11_decodeSerial_181 : decode cX11_decodeSerial 181 = .ok (.iadd, 1) := by decide +kernel
theorem dX11_decodeSerial_182 : decode cX11_decodeSerial 182 = .ok (.invokevirtual 133, 3) := by decide +kernel
theorem dX11_decodeSerial_185 : decode cX11_decodeSerial 185 = .ok (.istore 13, 2) := by decide +kernel
theorem dX11_decodeSerial_187 : decode cX11_decodeSerial 187 = .ok (.iload 11, 2) := by decide +kernel
theorem dX11_decodeSerial_189 : decode cX11_decodeSerial 189 = .ok (.iload 13, 2) := by decide +kernel
theorem dX11_decodeSerial_191 : decode cX11_decodeSerial 191 = .ok (.ifCond .eq 7, 3) := by decide +kernel
theorem dX11_decodeSerial_194 : decode cX11_decodeSerial 194 = .ok (.iconst 1, 1) := by decide +kernel
theorem dX11_decodeSerial_195 : decode cX11_decodeSerial 195 = .ok (.goto 4, 3) := by decide +kernel
theorem dX11_decodeSerial_198 : decode cX11_decodeSerial 198 = .ok (.iconst 0, 1) := by decide +kernel
theorem dX11_decodeSerial_199 : decode cX11_decodeSerial 199 = .ok (.iadd, 1) := by decide +kernel
theorem dX11_decodeSerial_200 : decode cX11_decodeSerial 200 = .ok (.istore 11, 2) := by decide +kernel
theorem dX11_decodeSerial_202 : decode cX11_decodeSerial 202 = .ok (.iload 10, 2) := by decide +kernel
theorem dX11_decodeSerial_204 : decode cX11_decodeSerial 204 = .ok (.iload 13, 2) := by decide +kernel
theorem dX11_decodeSerial_206 : decode cX11_decodeSerial 206 = .ok (.ifCond .eq 19, 3) := by decide +kernel
theorem dX11_decodeSerial_209 : decode cX11_decodeSerial 209 = .ok (.iload 12, 2) := by decide +kernel
theorem dX11_decodeSerial_211 : decode cX11_decodeSerial 211 = .ok (.bipush 8, 2) := by decide +kernel
theorem dX11_decodeSerial_213 : decode cX11_decodeSerial 213 = .ok (.if_icmp .gt 12, 3) := by decide +kernel
theorem dX11_decodeSerial_216 : decode cX11_decodeSerial 216 = .ok (.iconst 1, 1) := by decide +kernel
theorem dX11_decodeSerial_217 : decode cX11_decodeSerial 217 = .ok (.iload 12, 2) := by decide +kernel
theorem dX11_decodeSerial_219 : decode cX11_decodeSerial 219 = .ok (.iconst 1, 1) := by decide +kernel
theorem dX11_decodeSerial_220 : decode cX11_decodeSerial 220 = .ok (.isub, 1) := by decide +kernel
theorem dX11_decodeSerial_221 : decode cX11_decodeSerial 221 = .ok (.ishl, 1) := by decide +kernel
theorem dX11_decodeSerial_222 : decode cX11_decodeSerial 222 = .ok (.goto 4, 3) := by decide +kernel
theorem dX11_decodeSerial_225 : decode cX11_decodeSerial 225 = .ok (.iconst 0, 1) := by decide +kernel
theorem dX11_decodeSerial_226 : decode cX11_decodeSerial 226 = .ok (.ior, 1) := by decide +kernel
theorem dX11_decodeSerial_227 : decode cX11_decodeSerial 227 = .ok (.istore 10, 2) := by decide +kernel
theorem dX11_decodeSerial_229 : decode cX11_decodeSerial 229 = .ok (.iinc 12 1, 3) := by decide +kernel
theorem dX11_decodeSerial_232 : decode cX11_decodeSerial 232 = .ok (.goto (-76), 3) := by decide +kernel
theorem dX11_decodeSerial_235 : decode cX11_decodeSerial 235 = .ok (.iload 4, 2) := by decide +kernel
theorem dX11_decodeSerial_237 : decode cX11_decodeSerial 237 = .ok (.bipush 101, 2) := by decide +kernel
theorem dX11_decodeSerial_239 : decode cX11_decodeSerial 239 = .ok (.if_icmp .ne 11, 3) := by decide +kernel
theorem dX11_decodeSerial_242 : decode cX11_decodeSerial 242 = .ok (.iload 11, 2) := by decide +kernel
theorem dX11_decodeSerial_244 : decode cX11_decodeSerial 244 = .ok (.iconst 2, 1) := by decide +kernel
theorem dX11_decodeSerial_245 : decode cX11_decodeSerial 245 = .ok (.irem, 1) := by decide +kernel
theorem dX11_decodeSerial_246 : decode cX11_decodeSerial 246 = .ok (.iconst 1, 1) := by decide +kernel
theorem dX11_decodeSerial_247 : decode cX11_decodeSerial 247 = .ok (.if_icmp .eq 17, 3) := by decide +kernel
theorem dX11_decodeSerial_250 : decode cX11_decodeSerial 250 = .ok (.iload 4, 2) := by decide +kernel
theorem dX11_decodeSerial_252 : decode cX11_decodeSerial 252 = .ok (.bipush 111, 2) := by decide +kernel
theorem dX11_decodeSerial_254 : decode cX11_decodeSerial 254 = .ok (.if_icmp .ne 14, 3) := by decide +kernel
theorem dX11_decodeSerial_257 : decode cX11_decodeSerial 257 = .ok (.iload 11, 2) := by decide +kernel
theorem dX11_decodeSerial_259 : decode cX11_decodeSerial 259 = .ok (.iconst 2, 1) := by decide +kernel
theorem dX11_decodeSerial_260 : decode cX11_decodeSerial 260 = .ok (.irem, 1) := by decide +kernel
theorem dX11_decodeSerial_261 : decode cX11_decodeSerial 261 = .ok (.ifCond .ne 7, 3) := by decide +kernel
theorem dX11_decodeSerial_264 : decode cX11_decodeSerial 264 = .ok (.iconst 1, 1) := by decide +kernel
theorem dX11_decodeSerial_265 : decode cX11_decodeSerial 265 = .ok (.goto 4, 3) := by decide +kernel
theorem dX11_decodeSerial_268 : decode cX11_decodeSerial 268 = .ok (.iconst 0, 1) := by decide +kernel
theorem dX11_decodeSerial_269 : decode cX11_decodeSerial 269 = .ok (.istore 12, 2) := by decide +kernel
theorem dX11_decodeSerial_271 : decode cX11_decodeSerial 271 = .ok (.aload_n 0, 1) := by decide +kernel
theorem dX11_decodeSerial_272 : decode cX11_decodeSerial 272 = .ok (.bipush 66, 2) := by decide +kernel
theorem dX11_decodeSerial_274 : decode cX11_decodeSerial 274 = .ok (.iload 7, 2) := by decide +kernel
theorem dX11_decodeSerial_276 : decode cX11_decodeSerial 276 = .ok (.iload 8, 2) := by decide +kernel
theorem dX11_decodeSerial_278 : decode cX11_decodeSerial 278 = .ok (.iload 10, 2) := by decide +kernel
theorem dX11_decodeSerial_280 : decode cX11_decodeSerial 280 = .ok (.iload 12, 2) := by decide +kernel
theorem dX11_decodeSerial_282 : decode cX11_decodeSerial 282 = .ok (.ifCond .eq 8, 3) := by decide +kernel
theorem dX11_decodeSerial_285 : decode cX11_decodeSerial 285 = .ok (.bipush 112, 2) := by decide +kernel
theorem dX11_decodeSerial_287 : decode cX11_decodeSerial 287 = .ok (.goto 21, 3) := by decide +kernel
theorem dX11_decodeSerial_290 : decode cX11_decodeSerial 290 = .ok (.aload_n 0, 1) := by decide +kernel
theorem dX11_decodeSerial_291 : decode cX11_decodeSerial 291 = .ok (.iload_n 1, 1) := by decide +kernel
theorem dX11_decodeSerial_292 : decode cX11_decodeSerial 292 = .ok (.iload_n 2, 1) := by decide +kernel
theorem dX11_decodeSerial_293 : decode cX11_decodeSerial 293 = .ok (.iload 8, 2) := by decide +kernel
theorem dX11_decodeSerial_295 : decode cX11_decodeSerial 295 = .ok (.invokevirtual 133, 3) := by decide +kernel
theorem dX11_decodeSerial_298 : decode cX11_decodeSerial 298 = .ok (.ifCond .eq 8, 3) := by decide +kernel
theorem dX11_decodeSerial_301 : decode cX11_decodeSerial 301 = .ok (.bipush 45, 2) := by decide +kernel
theorem dX11_decodeSerial_303 : decode cX11_decodeSerial 303 = .ok (.goto 5, 3) := by decide +kernel
theorem dX11_decodeSerial_306 : decode cX11_decodeSerial 306 = .ok (.bipush 102, 2) := by decide +kernel
theorem dX11_decodeSerial_308 : decode cX11_decodeSerial 308 = .ok (.invokevirtual 241, 3) := by decide +kernel
theorem dX11_decodeSerial_311 : decode cX11_decodeSerial 311 = .ok (.iload 8, 2) := by decide +kernel
theorem dX11_decodeSerial_313 : decode cX11_decodeSerial 313 = .ok (.iconst 1, 1) := by decide +kernel
theorem dX11_decodeSerial_314 : decode cX11_decodeSerial 314 = .ok (.iadd, 1) := by decide +kernel
theorem dX11_decodeSerial_315 : decode cX11_decodeSerial 315 = .ok (.istore 7, 2) := by decide +kernel
theorem dX11_decodeSerial_317 : decode cX11_decodeSerial 317 = .ok (.goto 6, 3) := by decide +kernel
theorem dX11_decodeSerial_320 : decode cX11_decodeSerial 320 = .ok (.iinc 7 1, 3) := by decide +kernel
theorem dX11_decodeSerial_323 : decode cX11_decodeSerial 323 = .ok (.goto (-237), 3) := by decide +kernel
theorem dX11_decodeSerial_326 : decode cX11_decodeSerial 326 = .ok (.aload_n 0, 1) := by decide +kernel
theorem dX11_decodeSerial_327 : decode cX11_decodeSerial 327 = .ok (.getfield 37, 3) := by decide +kernel
theorem dX11_decodeSerial_330 : decode cX11_decodeSerial 330 = .ok (.invokevirtual 148, 3) := by decide +kernel
theorem dX11_decodeSerial_333 : decode cX11_decodeSerial 333 = .ok (.ireturn, 1) := by decide +kernel
theorem dX11_decodeTwo_0 : decode cX11_decodeTwo 0 = .ok (.aload_n 0, 1) := by decide +kernel
theorem dX11_decodeTwo_1 : decode cX11_decodeTwo 1 = .ok (.iload_n 1, 1) := by decide +kernel
theorem dX11_decodeTwo_2 : decode cX11_decodeTwo 2 = .ok (.i2l, 1) := by decide +kernel
theorem dX11_decodeTwo_3 : decode cX11_decodeTwo 3 = .ok (.lconst 0, 1) := by decide +kernel
theorem dX11_decodeTwo_4 : decode cX11_decodeTwo 4 = .ok (.lconst 1, 1) := by decide +kernel
theorem dX11_decodeTwo_5 : decode cX11_decodeTwo 5 = .ok (.invokestatic 49, 3) := by decide +kernel
theorem dX11_decodeTwo_8 : decode cX11_decodeTwo 8 = .ok (.ifCond .eq 21, 3) := by decide +kernel
theorem dX11_decodeTwo_11 : decode cX11_decodeTwo 11 = .ok (.iload_n 2, 1) := by decide +kernel
theorem dX11_decodeTwo_12 : decode cX11_decodeTwo 12 = .ok (.invokestatic 53, 3) := by decide +kernel
theorem dX11_decodeTwo_15 : decode cX11_decodeTwo 15 = .ok (.ifCond .eq 14, 3) := by decide +kernel
theorem dX11_decodeTwo_18 : decode cX11_decodeTwo 18 = .ok (.iload_n 3, 1) := by decide +kernel
theorem dX11_decodeTwo_19 : decode cX11_decodeTwo 19 = .ok (.invokestatic 53, 3) := by decide +kernel
theorem dX11_decodeTwo_22 : decode cX11_decodeTwo 22 = .ok (.ifCond .eq 7, 3) := by decide +kernel
theorem dX11_decodeTwo_25 : decode cX11_decodeTwo 25 = .ok (.iconst 0, 1) := by decide +kernel
theorem dX11_decodeTwo_26 : decode cX11_decodeTwo 26 = .ok (.goto 4, 3) := by decide +kernel
theorem dX11_decodeTwo_29 : decode cX11_decodeTwo 29 = .ok (.iconst 1, 1) := by decide +kernel
theorem dX11_decodeTwo_30 : decode cX11_decodeTwo 30 = .ok (.putfield 43, 3) := by decide +kernel
theorem dX11_decodeTwo_33 : decode cX11_decodeTwo 33 = .ok (.aload_n 0, 1) := by decide +kernel
theorem dX11_decodeTwo_34 : decode cX11_decodeTwo 34 = .ok (.getfield 43, 3) := by decide +kernel
theorem dX11_decodeTwo_37 : decode cX11_decodeTwo 37 = .ok (.ifCond .le 5, 3) := by decide +kernel
theorem dX11_decodeTwo_40 : decode cX11_decodeTwo 40 = .ok (.iconst 0, 1) := by decide +kernel
theorem dX11_decodeTwo_41 : decode cX11_decodeTwo 41 = .ok (.ireturn, 1) := by decide +kernel
theorem dX11_decodeTwo_42 : decode cX11_decodeTwo 42 = .ok (.aload_n 0, 1) := by decide +kernel
theorem dX11_decodeTwo_43 : decode cX11_decodeTwo 43 = .ok (.iload_n 2, 1) := by decide +kernel
theorem dX11_decodeTwo_44 : decode cX11_decodeTwo 44 = .ok (.iload_n 3, 1) := by decide +kernel
theorem dX11_decodeTwo_45 : decode cX11_decodeTwo 45 = .ok (.if_icmp .eq 7, 3) := by decide +kernel
theorem dX11_decodeTwo_48 : decode cX11_decodeTwo 48 = .ok (.iconst 0, 1) := by decide +kernel
theorem dX11_decodeTwo_49 : decode cX11_decodeTwo 49 = .ok (.goto 4, 3) := by decide +kernel
theorem dX11_decodeTwo_52 : decode cX11_decodeTwo 52 = .ok (.iconst 2, 1) := by decide +kernel
theorem dX11_decodeTwo_53 : decode cX11_decodeTwo 53 = .ok (.putfield 43, 3) := by decide +kernel
theorem dX11_decodeTwo_56 : decode cX11_decodeTwo 56 = .ok (.aload_n 0, 1) := by decide +kernel
theorem dX11_decodeTwo_57 : decode cX11_decodeTwo 57 = .ok (.getfield 43, 3) := by decide +kernel
theorem dX11_decodeTwo_60 : decode cX11_decodeTwo 60 = .ok (.ifCond .le 5, 3) := by decide +kernel
theorem dX11_decodeTwo_63 : decode cX11_decodeTwo 63 = .ok (.iconst 0, 1) := by decide +kernel
theorem dX11_decodeTwo_64 : decode cX11_decodeTwo 64 = .ok (.ireturn, 1) := by decide +kernel
theorem dX11_decodeTwo_65 : decode cX11_decodeTwo 65 = .ok (.aload_n 0, 1) := by decide +kernel
theorem dX11_decodeTwo_66 : decode cX11_decodeTwo 66 = .ok (.getfield 37, 3) := by decide +kernel
theorem dX11_decodeTwo_69 : decode cX11_decodeTwo 69 = .ok (.invokevirtual 193, 3) := by decide +kernel
theorem dX11_decodeTwo_72 : decode cX11_decodeTwo 72 = .ok (.iconst 0, 1) := by decide +kernel
theorem dX11_decodeTwo_73 : decode cX11_decodeTwo 73 = .ok (.istore 4, 2) := by decide +kernel
theorem dX11_decodeTwo_75 : decode cX11_decodeTwo 75 = .ok (.iconst 0, 1) := by decide +kernel
theorem dX11_decodeTwo_76 : decode cX11_decodeTwo 76 = .ok (.istore 5, 2) := by decide +kernel
theorem dX11_decodeTwo_78 : decode cX11_decodeTwo 78 = .ok (.iconst 0, 1) := by decide +kernel
theorem dX11_decodeTwo_79 : decode cX11_decodeTwo 79 = .ok (.istore 6, 2) := by decide +kernel
theorem dX11_decodeTwo_81 : decode cX11_decodeTwo 81 = .ok (.iconst 0, 1) := by decide +kernel
theorem dX11_decodeTwo_82 : decode cX11_decodeTwo 82 = .ok (.istore 7, 2) := by decide +kernel
theorem dX11_decodeTwo_84 : decode cX11_decodeTwo 84 = .ok (.iconst 0, 1) := by decide +kernel
theorem dX11_decodeTwo_85 : decode cX11_decodeTwo 85 = .ok (.istore 8, 2) := by decide +kernel
theorem dX11_decodeTwo_87 : decode cX11_decodeTwo 87 = .ok (.iconst 0, 1) := by decide +kernel
theorem dX11_decodeTwo_88 : decode cX11_decodeTwo 88 = .ok (.istore 9, 2) := by decide +kernel
theorem dX11_decodeTwo_90 : decode cX11_decodeTwo 90 = .ok (.iconst 0, 1) := by decide +kernel
theorem dX11_decodeTwo_91 : decode cX11_decodeTwo 91 = .ok (.istore 10, 2) := by decide +kernel
theorem dX11_decodeTwo_93 : decode cX11_decodeTwo 93 = .ok (.iconst 1, 1) := by decide +kernel
theorem dX11_decodeTwo_94 : decode cX11_decodeTwo 94 = .ok (.istore 11, 2) := by decide +kernel
theorem dX11_decodeTwo_96 : decode cX11_decodeTwo 96 = .ok (.iconst 1, 1) := by decide +kernel
theorem dX11_decodeTwo_97 : decode cX11_decodeTwo 97 = .ok (.istore 12, 2) := by decide +kernel
theorem dX11_decodeTwo_99 : decode cX11_decodeTwo 99 = .ok (.iload 12, 2) := by decide +kernel
theorem dX11_decodeTwo_101 : decode cX11_decodeTwo 101 = .ok (.aload_n 0, 1) := by decide +kernel
theorem dX11_decodeTwo_102 : decode cX11_decodeTwo 102 = .ok (.getfield 27, 3) := by decide +kernel
theorem dX11_decodeTwo_105 : decode cX11_decodeTwo 105 = .ok (.iload_n 1, 1) := by decide +kernel
theorem dX11_decodeTwo_106 : decode cX11_decodeTwo 106 = .ok (.aaload, 1) := by decide +kernel
theorem dX11_decodeTwo_107 : decode cX11_decodeTwo 107 = .ok (.arraylength, 1) := by decide +kernel
theorem dX11_decodeTwo_108 : decode cX11_decodeTwo 108 = .ok (.if_icmp .ge 311, 3) := by decide +kernel
theorem dX11_decodeTwo_111 : decode cX11_decodeTwo 111 = .ok (.aload_n 0, 1) := by decide +kernel
theorem dX11_decodeTwo_112 : decode cX11_decodeTwo 112 = .ok (.iload_n 1, 1) := by decide +kernel
theorem dX11_decodeTwo_113 : decode cX11_decodeTwo 113 = .ok (.iload_n 2, 1) := by decide +kernel
theorem dX11_decodeTwo_114 : decode cX11_decodeTwo 114 = .ok (.iload 12, 2) := by decide +kernel
theorem dX11_decodeTwo_116 : decode cX11_decodeTwo 116 = .ok (.invokevirtual 133, 3) := by decide +kernel
theorem dX11_decodeTwo_119 : decode cX11_decodeTwo 119 = .ok (.ifCond .eq 20, 3) := by decide +kernel
theorem dX11_decodeTwo_122 : decode cX11_decodeTwo 122 = .ok (.aload_n 0, 1) := by decide +kernel
theorem dX11_decodeTwo_123 : decode cX11_decodeTwo 123 = .ok (.iload_n 1, 1) := by decide +kernel
theorem dX11_decodeTwo_124 : decode cX11_decodeTwo 124 = .ok (.iload_n 2, 1) := by decide +kernel
theorem dX11_decodeTwo_125 : decode cX11_decodeTwo 125 = .ok (.iload 12, 2) := by decide +kernel
theorem dX11_decodeTwo_127 : decode cX11_decodeTwo 127 = .ok (.iconst 1, 1) := by decide +kernel
theorem dX11_decodeTwo_128 : decode cX11_decodeTwo 128 = .ok (.isub, 1) := by decide +kernel
theorem dX11_decodeTwo_129 : decode cX11_decodeTwo 129 = .ok (.invokevirtual 133, 3) := by decide +kernel
theorem dX11_decodeTwo_132 : decode cX11_decodeTwo 132 = .ok (.ifCond .eq 7, 3) := by decide +kernel
theorem dX11_decodeTwo_135 : decode cX11_decodeTwo 135 = .ok (.iconst 1, 1) := by decide +kernel
theorem dX11_decodeTwo_136 : decode cX11_decodeTwo 136 = .ok (.goto 4, 3) := by decide +kernel
theorem dX11_decodeTwo_139 : decode cX11_decodeTwo 139 = .ok (.iconst 0, 1) := by decide +kernel
theorem dX11_decodeTwo_140 : decode cX11_decodeTwo 140 = .ok (.istore 13, 2) := by decide +kernel
theorem dX11_decodeTwo_142 : decode cX11_decodeTwo 142 = .ok (.iload 13, 2) := by decide +kernel
theorem dX11_decodeTwo_144 : decode cX11_decodeTwo 144 = .ok (.ifCond .eq 56, 3) := by decide +kernel
theorem dX11_decodeTwo_147 : decode cX11_decodeTwo 147 = .ok (.aload_n 0, 1) := by decide +kernel
theorem dX11_decodeTwo_148 : decode cX11_decodeTwo 148 = .ok (.iload_n 1, 1) := by decide +kernel
theorem dX11_decodeTwo_149 : decode cX11_decodeTwo 149 = .ok (.iload_n 3, 1) := by decide +kernel
theorem dX11_decodeTwo_150 : decode cX11_decodeTwo 150 = .ok (.iload 12, 2) := by decide +kernel
theorem dX11_decodeTwo_152 : decode cX11_decodeTwo 152 = .ok (.invokevirtual 137, 3) := by decide +kernel
theorem dX11_decodeTwo_155 : decode cX11_decodeTwo 155 = .ok (.ifCond .eq 45, 3) := by decide +kernel
theorem dX11_decodeTwo_158 : decode cX11_decodeTwo 158 = .ok (.aload_n 0, 1) := by decide +kernel
theorem dX11_decodeTwo_159 : decode cX11_decodeTwo 159 = .ok (.iload_n 1, 1) := by decide +kernel
theorem dX11_decodeTwo_160 : decode cX11_decodeTwo 160 = .ok (.iload_n 3, 1) := by decide +kernel
theorem dX11_decodeTwo_161 : decode cX11_decodeTwo 161 = .ok (.iload 12, 2) := by decide +kernel
theorem dX11_decodeTwo_163 : decode cX11_decodeTwo 163 = .ok (.invokevirtual 206, 3) := by decide +kernel
theorem dX11_decodeTwo_166 : decode cX11_decodeTwo 166 = .ok (.istore 4, 2) := by decide +kernel
theorem dX11_decodeTwo_168 : decode cX11_decodeTwo 168 = .ok (.aload_n 0, 1) := by decide +kernel
theorem dX11_decodeTwo_169 : decode cX11_decodeTwo 169 = .ok (.iload 4, 2) := by decide +kernel
theorem dX11_decodeTwo_171 : decode cX11_decodeTwo 171 = .ok (.ifCond .eq 8, 3) := by decide +kernel
theorem dX11_decodeTwo_174 : decode cX11_decodeTwo 174 = .ok (.bipush 83, 2) := by decide +kernel
theorem dX11_decodeTwo_176 : decode cX11_decodeTwo 176 = .ok (.goto 5, 3) := by decide +kernel
theorem dX11_decodeTwo_179 : decode cX11_decodeTwo 179 = .ok (.bipush 69, 2) := by decide +kernel
theorem dX11_decodeTwo_181 : decode cX11_decodeTwo 181 = .ok (.iload 12, 2) := by decide +kernel
theorem dX11_decodeTwo_183 : decode cX11_decodeTwo 183 = .ok (.iload 12, 2) := by decide +kernel
theorem dX11_decodeTwo_185 : decode cX11_decodeTwo 185 = .ok (.iconst 0, 1) := by decide +kernel
theorem dX11_decodeTwo_186 : decode cX11_decodeTwo 186 = .ok (.bipush 45, 2) := by decide +kernel
theorem dX11_decodeTwo_188 : decode cX11_decodeTwo 188 = .ok (.invokevirtual 241, 3) := by decide +kernel
theorem dX11_decodeTwo_191 : decode cX11_decodeTwo 191 = .ok (.iconst 0, 1) := by decide +kernel
theorem dX11_decodeTwo_192 : decode cX11_decodeTwo 192 = .ok (.istore 5, 2) := by decide +kernel
theorem dX11_decodeTwo_194 : decode cX11_decodeTwo 194 = .ok (.iconst 0, 1) := by decide +kernel
theorem dX11_decodeTwo_195 : decode cX11_decodeTwo 195 = .ok (.istore 6, 2) := by decide +kernel
theorem dX11_decodeTwo_197 : decode cX11_decodeTwo 197 = .ok (.iconst 1, 1) := by decide +kernel
theorem dX11_decodeTwo_198 : decode cX11_decodeTwo 198 = .ok (.istore 11, 2) := by decide +kernel
theorem dX11_decodeTwo_200 : decode cX11_decodeTwo 200 = .ok (.iload 4, 2) := by decide +kernel
theorem dX11_decodeTwo_202 : decode cX11_decodeTwo 202 = .ok (.ifCond .eq 211, 3) := by decide +kernel
theorem dX11_decodeTwo_205 : decode cX11_decodeTwo 205 = .ok (.aload_n 0, 1) := by decide +kernel
theorem dX11_decodeTwo_206 : decode cX11_decodeTwo 206 = .ok (.iload_n 1, 1) := by decide +kernel
theorem dX11_decodeTwo_207 : decode cX11_decodeTwo 207 = .ok (.iload_n 2, 1) := by decide +kernel
theorem dX11_decodeTwo_208 : decode cX11_decodeTwo 208 = .ok (.iload 12, 2) := by decide +kernel
theorem dX11_decodeTwo_210 : decode cX11_decodeTwo 210 = .ok (.invokevirtual 203, 3) := by decide +kernel
theorem dX11_decodeTwo_213 : decode cX11_decodeTwo 213 = .ok (.ifCond .eq 200, 3) := by decide +kernel
theorem dX11_decodeTwo_216 : decode cX11_decodeTwo 216 = .ok (.aload_n 0, 1) := by decide +kernel
theorem dX11_decodeTwo_217 : decode cX11_decodeTwo 217 = .ok (.iload_n 1, 1) := by decide +kernel
theorem dX11_decodeTwo_218 : decode cX11_decodeTwo 218 = .ok (.iload_n 3, 1) := by decide +kernel
theorem dX11_decodeTwo_219 : decode cX11_decodeTwo 219 = .ok (.iload 12, 2) := by decide +kernel
theorem dX11_decodeTwo_221 : decode cX11_decodeTwo 221 = .ok (.invokevirtual 133, 3) := by decide +kernel
theorem dX11_decodeTwo_224 : decode cX11_decodeTwo 224 = .ok (.istore 14, 2) := by decide +kernel
theorem dX11_decodeTwo_226 : decode cX11_decodeTwo 226 = .ok (.iload 6, 2) := by decide +kernel
theorem dX11_decodeTwo_228 : decode cX11_decodeTwo 228 = .ok (.ifCond .ne 8, 3) := by decide +kernel
theorem dX11_decodeTwo_231 : decode cX11_decodeTwo 231 = .ok (.iload 12, 2) := by decide +kernel
theorem dX11_decodeTwo_233 : decode cX11_decodeTwo 233 = .ok (.goto 5, 3) := by decide +kernel
theorem dX11_decodeTwo_236 : decode cX11_decodeTwo 236 = .ok (.iload 8, 2) := by decide +kernel
theorem dX11_decodeTwo_238 : decode cX11_decodeTwo 238 = .ok (.istore 8, 2) := by decide +kernel
theorem dX11_decodeTwo_240 : decode cX11_decodeTwo 240 = .ok (.iload 6, 2) := by decide +kernel
theorem dX11_decodeTwo_242 : decode cX11_decodeTwo 242 = .ok (.ifCond .ne 7, 3) := by decide +kernel
theorem dX11_decodeTwo_245 : decode cX11_decodeTwo 245 = .ok (.iconst 0, 1) := by decide +kernel
theorem dX11_decodeTwo_246 : decode cX11_decodeTwo 246 = .ok (.goto 5, 3) := by decide +kernel
theorem dX11_decodeTwo_249 : decode cX11_decodeTwo 249 = .ok (.iload 7, 2) := by decide +kernel
theorem dX11_decodeTwo_251 : decode cX11_decodeTwo 251 = .ok (.istore 7, 2) := by decide +kernel
theorem dX11_decodeTwo_253 : decode cX11_decodeTwo 253 = .ok (.iload 6, 2) := by decide +kernel
theorem dX11_decodeTwo_255 : decode cX11_decodeTwo 255 = .ok (.bipush 8, 2) := by decide +kernel
theorem dX11_decodeTwo_257 : decode cX11_decodeTwo 257 = .ok (.if_icmp .ge 21, 3) := by decide +kernel
theorem dX11_decodeTwo_260 : decode cX11_decodeTwo 260 = .ok (.iconst 2, 1) := by decide +kernel
theorem dX11_decodeTwo_261 : decode cX11_decodeTwo 261 = .ok (.iload 7, 2) := by decide +kernel
theorem dX11_decodeTwo_263 : decode cX11_decodeTwo 263 = .ok (.imul, 1) := by decide +kernel
theorem dX11_decodeTwo_264 : decode cX11_decodeTwo 264 = .ok (.iload 14, 2) := by decide +kernel
theorem dX11_decodeTwo_266 : decode cX11_decodeTwo 266 = .ok (.ifCond .eq 7, 3) := by decide +kernel
theorem dX11_decodeTwo_269 : decode cX11_decodeTwo 269 = .ok (.iconst 1, 1) := by decide +kernel
theorem dX11_decodeTwo_270 : decode cX11_decodeTwo 270 = .ok (.goto 4, 3) := by decide +kernel
theorem dX11_decodeTwo_273 : decode cX11_decodeTwo 273 = .ok (.iconst 0, 1) := by decide +kernel
theorem dX11_decodeTwo_274 : decode cX11_decodeTwo 274 = .ok (.iadd, 1) := by decide +kernel
theorem dX11_decodeTwo_275 : decode cX11_decodeTwo 275 = .ok (.goto 5, 3) := by decide +kernel
theorem dX11_decodeTwo_278 : decode cX11_decodeTwo 278 = .ok (.iload 7, 2) := by decide +kernel
theorem dX11_decodeTwo_280 : decode cX11_decodeTwo 280 = .ok (.istore 7, 2) := by decide +kernel
theorem dX11_decodeTwo_282 : decode cX11_decodeTwo 282 = .ok (.iinc 6 1, 3) := by decide +kernel
theorem dX11_decodeTwo_285 : decode cX11_decodeTwo 285 = .ok (.iload 6, 2) := by decide +kernel
theorem dX11_decodeTwo_287 : decode cX11_decodeTwo 287 = .ok (.bipush 9, 2) := by decide +kernel
theorem dX11_decodeTwo_289 : decode cX11_decodeTwo 289 = .ok (.if_icmp .ne 124, 3) := by decide +kernel
theorem dX11_decodeTwo_292 : decode cX11_decodeTwo 292 = .ok (.aload_n 0, 1) := by decide +kernel
theorem dX11_decodeTwo_293 : decode cX11_decodeTwo 293 = .ok (.iload 5, 2) := by decide +kernel
theorem dX11_decodeTwo_295 : decode cX11_decodeTwo 295 = .ok (.ifCond .ne 8, 3) := by decide +kernel
theorem dX11_decodeTwo_298 : decode cX11_decodeTwo 298 = .ok (.bipush 65, 2) := by decide +kernel
theorem dX11_decodeTwo_300 : decode cX11_decodeTwo 300 = .ok (.goto 5, 3) := by decide +kernel
theorem dX11_decodeTwo_303 : decode cX11_decodeTwo 303 = .ok (.bipush 68, 2) := by decide +kernel
theorem dX11_decodeTwo_305 : decode cX11_decodeTwo 305 = .ok (.iload 8, 2) := by decide +kernel
theorem dX11_decodeTwo_307 : decode cX11_decodeTwo 307 = .ok (.iload 12, 2) := by decide +kernel
theorem dX11_decodeTwo_309 : decode cX11_decodeTwo 309 = .ok (.iload 7, 2) := by decide +kernel
theorem dX11_decodeTwo_311 : decode cX11_decodeTwo 311 = .ok (.iload 14, 2) := by decide +kernel
theorem dX11_decodeTwo_313 : decode cX11_decodeTwo 313 = .ok (.ifCond .eq 8, 3) := by decide +kernel
theorem dX11_decodeTwo_316 : decode cX11_decodeTwo 316 = .ok (.bipush 110, 2) := by decide +kernel
theorem dX11_decodeTwo_318 : decode cX11_decodeTwo 318 = .ok (.goto 5, 3) := by decide +kernel
theorem dX11_decodeTwo_321 : decode cX11_decodeTwo 321 = .ok (.bipush 45, 2) := by decide +kernel
theorem dX11_decodeTwo_323 : decode cX11_decodeTwo 323 = .ok (.invokevirtual 241, 3) := by decide +kernel
theorem dX11_decodeTwo_326 : decode cX11_decodeTwo 326 = .ok (.iload 11, 2) := by decide +kernel
theorem dX11_decodeTwo_328 : decode cX11_decodeTwo 328 = .ok (.ifCond .eq 12, 3) := by decide +kernel
theorem dX11_decodeTwo_331 : decode cX11_decodeTwo 331 = .ok (.iload 14, 2) := by decide +kernel
theorem dX11_decodeTwo_333 : decode cX11_decodeTwo 333 = .ok (.ifCond .ne 7, 3) := by decide +kernel
theorem dX11_decodeTwo_336 : decode cX11_decodeTwo 336 = .ok (.iconst 1, 1) := by decide +kernel
theorem dX11_decodeTwo_337 : decode cX11_decodeTwo 337 = .ok (.goto 4, 3) := by decide +kernel
theorem dX11_decodeTwo_340 : decode cX11_decodeTwo 340 = .ok (.iconst 0, 1) := by decide +kernel
theorem dX11_decodeTwo_341 : decode cX11_decodeTwo 341 = .ok (.istore 11, 2) := by decide +kernel
theorem dX11_decodeTwo_343 : decode cX11_decodeTwo 343 = .ok (.iload 5, 2) := by decide +kernel
theorem dX11_decodeTwo_345 : decode cX11_decodeTwo 345 = .ok (.ifCond .ne 8, 3) := by decide +kernel
theorem dX11_decodeTwo_348 : decode cX11_decodeTwo 348 = .ok (.iload 7, 2) := by decide +kernel
theorem dX11_decodeTwo_350 : decode cX11_decodeTwo 350 = .ok (.goto 5, 3) := by decide +kernel
theorem dX11_decodeTwo_353 : decode cX11_decodeTwo 353 = .ok (.iload 9, 2) := by decide +kernel
theorem dX11_decodeTwo_355 : decode cX11_decodeTwo 355 = .ok (.istore 9, 2) := by decide +kernel
theorem dX11_decodeTwo_357 : decode cX11_decodeTwo 357 = .ok (.iload 5, 2) := by decide +kernel
theorem dX11_decodeTwo_359 : decode cX11_decodeTwo 359 = .ok (.iconst 1, 1) := by decide +kernel
theorem dX11_decodeTwo_360 : decode cX11_decodeTwo 360 = .ok (.if_icmp .ne 8, 3) := by decide +kernel
theorem dX11_decodeTwo_363 : decode cX11_decodeTwo 363 = .ok (.iload 7, 2) := by decide +kernel
theorem dX11_decodeTwo_365 : decode cX11_decodeTwo 365 = .ok (.goto 5, 3) := by decide +kernel
theorem dX11_decodeTwo_368 : decode cX11_decodeTwo 368 = .ok (.iload 10, 2) := by decide +kernel
theorem dX11_decodeTwo_370 : decode cX11_decodeTwo 370 = .ok (.istore 10, 2) := by decide +kernel
theorem dX11_decodeTwo_372 : decode cX11_decodeTwo 372 = .ok (.iload 5, 2) := by decide +kernel
theorem dX11_decodeTwo_374 : decode cX11_decodeTwo 374 = .ok (.iconst 2, 1) := by decide +kernel
theorem dX11_decodeTwo_375 : decode cX11_decodeTwo 375 = .ok (.if_icmp .ne 32, 3) := by decide +kernel
theorem dX11_decodeTwo_378 : decode cX11_decodeTwo 378 = .ok (.iload 11, 2) := by decide +kernel
theorem dX11_decodeTwo_380 : decode cX11_decodeTwo 380 = .ok (.ifCond .eq 27, 3) := by decide +kernel
theorem dX11_decodeTwo_383 : decode cX11_decodeTwo 383 = .ok (.iload 9, 2) := by decide +kernel
theorem dX11_decodeTwo_385 : decode cX11_decodeTwo 385 = .ok (.iconst 2, 1) := by decide +kernel
theorem dX11_decodeTwo_386 : decode cX11_decodeTwo 386 = .ok (.irem, 1) := by decide +kernel
theorem dX11_decodeTwo_387 : decode cX11_decodeTwo 387 = .ok (.ifCond .ne 20, 3) := by decide +kernel
theorem dX11_decodeTwo_390 : decode cX11_decodeTwo 390 = .ok (.aload_n 0, 1) := by decide +kernel
theorem dX11_decodeTwo_391 : decode cX11_decodeTwo 391 = .ok (.getfield 40, 3) := by decide +kernel
theorem dX11_decodeTwo_394 : decode cX11_decodeTwo 394 = .ok (.iload 9, 2) := by decide +kernel
theorem dX11_decodeTwo_396 : decode cX11_decodeTwo 396 = .ok (.iconst 2, 1) := by decide +kernel
theorem dX11_decodeTwo_397 : decode cX11_decodeTwo 397 = .ok (.idiv, 1) := by decide +kernel
theorem dX11_decodeTwo_398 : decode cX11_decodeTwo 398 = .ok (.aaload, 1) := by decide +kernel
theorem dX11_decodeTwo_399 : decode cX11_decodeTwo 399 = .ok (.iload 10, 2) := by decide +kernel
theorem dX11_decodeTwo_401 : decode cX11_decodeTwo 401 = .ok (.bipush 16, 2) := by decide +kernel
theorem dX11_decodeTwo_403 : decode cX11_decodeTwo 403 = .ok (.irem, 1) := by decide +kernel
theorem dX11_decodeTwo_404 : decode cX11_decodeTwo 404 = .ok (.iload 7, 2) := by decide +kernel
theorem dX11_decodeTwo_406 : decode cX11_decodeTwo 406 = .ok (.iastore, 1) := by decide +kernel
theorem dX11_decodeTwo_407 : decode cX11_decodeTwo 407 = .ok (.iinc 5 1, 3) := by decide +kernel
theorem dX11_decodeTwo_410 : decode cX11_decodeTwo 410 = .ok (.iconst 0, 1) := by decide +kernel
theorem dX11_decodeTwo_411 : decode cX11_decodeTwo 411 = .ok (.istore 6, 2) := by decide +kernel
theorem dX11_decodeTwo_413 : decode cX11_decodeTwo 413 = .ok (.iinc 12 1, 3) := by decide +kernel
theorem dX11_decodeTwo_416 : decode cX11_decodeTwo 416 = .ok (.goto (-317), 3) := by decide +kernel
theorem dX11_decodeTwo_419 : decode cX11_decodeTwo 419 = .ok (.aload_n 0, 1) := by decide +kernel
theorem dX11_decodeTwo_420 : decode cX11_decodeTwo 420 = .ok (.getfield 37, 3) := by decide +kernel
theorem dX11_decodeTwo_423 : decode cX11_decodeTwo 423 = .ok (.invokevirtual 148, 3) := by decide +kernel
theorem dX11_decodeTwo_426 : decode cX11_decodeTwo 426 = .ok (.ireturn, 1) := by decide +kernel
theorem dX11_decodeFour_0 : decode cX11_decodeFour 0 = .ok (.aload_n 0, 1) := by decide +kernel
theorem dX11_decodeFour_1 : decode cX11_decodeFour 1 = .ok (.iload_n 1, 1) := by decide +kernel
theorem dX11_decodeFour_2 : decode cX11_decodeFour 2 = .ok (.i2l, 1) := by decide +kernel
theorem dX11_decodeFour_3 : decode cX11_decodeFour 3 = .ok (.lconst 0, 1) := by decide +kernel
theorem dX11_decodeFour_4 : decode cX11_decodeFour 4 = .ok (.lconst 1, 1) := by decide +kernel
theorem dX11_decodeFour_5 : decode cX11_decodeFour 5 = .ok (.invokestatic 49, 3) := by decide +kernel
theorem dX11_decodeFour_8 : decode cX11_decodeFour 8 = .ok (.ifCond .eq 29, 3) := by decide +kernel
theorem dX11_decodeFour_11 : decode cX11_decodeFour 11 = .ok (.iload_n 2, 1) := by decide +kernel
theorem dX11_decodeFour_12 : decode cX11_decodeFour 12 = .ok (.invokestatic 53, 3) := by decide +kernel
theorem dX11_decodeFour_15 : decode cX11_decodeFour 15 = .ok (.ifCond .eq 22, 3) := by decide +kernel
theorem dX11_decodeFour_18 : decode cX11_decodeFour 18 = .ok (.iload_n 3, 1) := by decide +kernel
theorem dX11_decodeFour_19 : decode cX11_decodeFour 19 = .ok (.invokestatic 53, 3) := by decide +kernel
theorem dX11_decodeFour_22 : decode cX11_decodeFour 22 = .ok (.ifCond .eq 15, 3) := by decide +kernel
theorem dX11_decodeFour_25 : decode cX11_decodeFour 25 = .ok (.iload 4, 2) := by decide +kernel
theorem dX11_decodeFour_27 : decode cX11_decodeFour 27 = .ok (.invokestatic 53, 3) := by decide +kernel
theorem dX11_decodeFour_30 : decode cX11_decodeFour 30 = .ok (.ifCond .eq 7, 3) := by decide +kernel
theorem dX11_decodeFour_33 : decode cX11_decodeFour 33 = .ok (.iconst 0, 1) := by decide +kernel
theorem dX11_decodeFour_34 : decode cX11_decodeFour 34 = .ok (.goto 4, 3) := by decide +kernel
theorem dX11_decodeFour_37 : decode cX11_decodeFour 37 = .ok (.iconst 1, 1) := by decide +kernel
theorem dX11_decodeFour_38 : decode cX11_decodeFour 38 = .ok (.putfield 43, 3) := by decide +kernel
theorem dX11_decodeFour_41 : decode cX11_decodeFour 41 = .ok (.aload_n 0, 1) := by decide +kernel
theorem dX11_decodeFour_42 : decode cX11_decodeFour 42 = .ok (.getfield 43, 3) := by decide +kernel
theorem dX11_decodeFour_45 : decode cX11_decodeFour 45 = .ok (.ifCond .le 5, 3) := by decide +kernel
theorem dX11_decodeFour_48 : decode cX11_decodeFour 48 = .ok (.iconst 0, 1) := by decide +kernel
theorem dX11_decodeFour_49 : decode cX11_decodeFour 49 = .ok (.ireturn, 1) := by decide +kernel
theorem dX11_decodeFour_50 : decode cX11_decodeFour 50 = .ok (.iload_n 2, 1) := by decide +kernel
theorem dX11_decodeFour_51 : decode cX11_decodeFour 51 = .ok (.iload_n 3, 1) := by decide +kernel
theorem dX11_decodeFour_52 : decode cX11_decodeFour 52 = .ok (.if_icmp .eq 19, 3) := by decide +kernel
theorem dX11_decodeFour_55 : decode cX11_decodeFour 55 = .ok (.iload_n 2, 1) := by decide +kernel
theorem dX11_decodeFour_56 : decode cX11_decodeFour 56 = .ok (.iload 4, 2) := by decide +kernel
theorem dX11_decodeFour_58 : decode cX11_decodeFour 58 = .ok (.if_icmp .eq 13, 3) := by decide +kernel
theorem dX11_decodeFour_61 : decode cX11_decodeFour 61 = .ok (.iload_n 3, 1) := by decide +kernel
theorem dX11_decodeFour_62 : decode cX11_decodeFour 62 = .ok (.iload 4, 2) := by decide +kernel
theorem dX11_decodeFour_64 : decode cX11_decodeFour 64 = .ok (.if_icmp .eq 7, 3) := by decide +kernel
theorem dX11_decodeFour_67 : decode cX11_decodeFour 67 = .ok (.iconst 1, 1) := by decide +kernel
theorem dX11_decodeFour_68 : decode cX11_decodeFour 68 = .ok (.goto 4, 3) := by decide +kernel
theorem dX11_decodeFour_71 : decode cX11_decodeFour 71 = .ok (.iconst 0, 1) := by decide +kernel
theorem dX11_decodeFour_72 : decode cX11_decodeFour 72 = .ok (.istore 6, 2) := by decide +kernel
theorem dX11_decodeFour_74 : decode cX11_decodeFour 74 = .ok (.aload_n 0, 1) := by decide +kernel
theorem dX11_decodeFour_75 : decode cX11_decodeFour 75 = .ok (.iload 6, 2) := by decide +kernel
theorem dX11_decodeFour_77 : decode cX11_decodeFour 77 = .ok (.ifCond .eq 20, 3) := by decide +kernel
theorem dX11_decodeFour_80 : decode cX11_decodeFour 80 = .ok (.iload 5, 2) := by decide +kernel
theorem dX11_decodeFour_82 : decode cX11_decodeFour 82 = .ok (.i2l, 1) := by decide +kernel
theorem dX11_decodeFour_83 : decode cX11_decodeFour 83 = .ok (.lconst 0, 1) := by decide +kernel
theorem dX11_decodeFour_84 : decode cX11_decodeFour 84 = .ok (.ldc2_w 47, 3) := by decide +kernel
theorem dX11_decodeFour_87 : decode cX11_decodeFour 87 = .ok (.invokestatic 49, 3) := by decide +kernel
theorem dX11_decodeFour_90 : decode cX11_decodeFour 90 = .ok (.ifCond .eq 7, 3) := by decide +kernel
theorem dX11_decodeFour_93 : decode cX11_decodeFour 93 = .ok (.iconst 0, 1) := by decide +kernel
theorem dX11_decodeFour_94 : decode cX11_decodeFour 94 = .ok (.goto 4, 3) := by decide +kernel
theorem dX11_decodeFour_97 : decode cX11_decodeFour 97 = .ok (.iconst 2, 1) := by decide +kernel
theorem dX11_decodeFour_98 : decode cX11_decodeFour 98 = .ok (.putfield 43, 3) := by decide +kernel
theorem dX11_decodeFour_101 : decode cX11_decodeFour 101 = .ok (.aload_n 0, 1) := by decide +kernel
theorem dX11_decodeFour_102 : decode cX11_decodeFour 102 = .ok (.getfield 43, 3) := by decide +kernel
theorem dX11_decodeFour_105 : decode cX11_decodeFour 105 = .ok (.ifCond .le 5, 3) := by decide +kernel
theorem dX11_decodeFour_108 : decode cX11_decodeFour 108 = .ok (.iconst 0, 1) := by decide +kernel
theorem dX11_decodeFour_109 : decode cX11_decodeFour 109 = .ok (.ireturn, 1) := by decide +kernel
theorem dX11_decodeFour_110 : decode cX11_decodeFour 110 = .ok (.aload_n 0, 1) := by decide +kernel
theorem dX11_decodeFour_111 : decode cX11_decodeFour 111 = .ok (.getfield 37, 3) := by decide +kernel
theorem dX11_decodeFour_114 : decode cX11_decodeFour 114 = .ok (.invokevirtual 193, 3) := by decide +kernel
theorem dX11_decodeFour_117 : decode cX11_decodeFour 117 = .ok (.iconst 0, 1) := by decide +kernel
theorem dX11_decodeFour_118 : decode cX11_decodeFour 118 = .ok (.istore 7, 2) := by decide +kernel
theorem dX11_decodeFour_120 : decode cX11_decodeFour 120 = .ok (.iconst 0, 1) := by decide +kernel
theorem dX11_decodeFour_121 : decode cX11_decodeFour 121 = .ok (.istore 8, 2) := by decide +kernel
theorem dX11_decodeFour_123 : decode cX11_decodeFour 123 = .ok (.iconst 0, 1) := by decide +kernel
theorem dX11_decodeFour_124 : decode cX11_decodeFour 124 = .ok (.istore 9, 2) := by decide +kernel
theorem dX11_decodeFour_126 : decode cX11_decodeFour 126 = .ok (.iconst 1, 1) := by decide +kernel
theorem dX11_decodeFour_127 : decode cX11_decodeFour 127 = .ok (.istore 10, 2) := by decide +kernel
theorem dX11_decodeFour_129 : decode cX11_decodeFour 129 = .ok (.iload 10, 2) := by decide +kernel
theorem dX11_decodeFour_131 : decode cX11_decodeFour 131 = .ok (.aload_n 0, 1) := by decide +kernel
theorem dX11_decodeFour_132 : decode cX11_decodeFour 132 = .ok (.getfield 27, 3) := by decide +kernel
theorem dX11_decodeFour_135 : decode cX11_decodeFour 135 = .ok (.iload_n 1, 1) := by decide +kernel
theorem dX11_decodeFour_136 : decode cX11_decodeFour 136 = .ok (.aaload, 1) := by decide +kernel
theorem dX11_decodeFour_137 : decode cX11_decodeFour 137 = .ok (.arraylength, 1) := by decide +kernel
theorem dX11_decodeFour_138 : decode cX11_decodeFour 138 = .ok (.if_icmp .ge 191, 3) := by decide +kernel
theorem dX11_decodeFour_141 : decode cX11_decodeFour 141 = .ok (.aload_n 0, 1) := by decide +kernel
theorem dX11_decodeFour_142 : decode cX11_decodeFour 142 = .ok (.iload_n 1, 1) := by decide +kernel
theorem dX11_decodeFour_143 : decode cX11_decodeFour 143 = .ok (.iload 4, 2) := by decide +kernel
theorem dX11_decodeFour_145 : decode cX11_decodeFour 145 = .ok (.iload 10, 2) := by decide +kernel
theorem dX11_decodeFour_147 : decode cX11_decodeFour 147 = .ok (.invokevirtual 133, 3) := by decide +kernel
theorem dX11_decodeFour_150 : decode cX11_decodeFour 150 = .ok (.ifCond .ne 21, 3) := by decide +kernel
theorem dX11_decodeFour_153 : decode cX11_decodeFour 153 = .ok (.aload_n 0, 1) := by decide +kernel
theorem dX11_decodeFour_154 : decode cX11_decodeFour 154 = .ok (.iload_n 1, 1) := by decide +kernel
theorem dX11_decodeFour_155 : decode cX11_decodeFour 155 = .ok (.iload 4, 2) := by decide +kernel
theorem dX11_decodeFour_157 : decode cX11_decodeFour 157 = .ok (.iload 10, 2) := by decide +kernel
theorem dX11_decodeFour_159 : decode cX11_decodeFour 159 = .ok (.iconst 1, 1) := by decide +kernel
theorem dX11_decodeFour_160 : decode cX11_decodeFour 160 = .ok (.isub, 1) := by decide +kernel
theorem dX11_decodeFour_161 : decode cX11_decodeFour 161 = .ok (.invokevirtual 133, 3) := by decide +kernel
theorem dX11_decodeFour_164 : decode cX11_decodeFour 164 = .ok (.ifCond .ne 7, 3) := by decide +kernel
theorem dX11_decodeFour_167 : decode cX11_decodeFour 167 = .ok (.iconst 1, 1) := by decide +kernel
theorem dX11_decodeFour_168 : decode cX11_decodeFour 168 = .ok (.goto 4, 3) := by decide +kernel
theorem dX11_decodeFour_171 : decode cX11_decodeFour 171 = .ok (.iconst 0, 1) := by decide +kernel
theorem dX11_decodeFour_172 : decode cX11_decodeFour 172 = .ok (.istore 11, 2) := by decide +kernel
theorem dX11_decodeFour_174 : decode cX11_decodeFour 174 = .ok (.iload 5, 2) := by decide +kernel
theorem dX11_decodeFour_176 : decode cX11_decodeFour 176 = .ok (.ifCond .eq 9, 3) := by decide +kernel
theorem dX11_decodeFour_179 : decode cX11_decodeFour 179 = .ok (.iload 5, 2) := by decide +kernel
theorem dX11_decodeFour_181 : decode cX11_decodeFour 181 = .ok (.iconst 3, 1) := by decide +kernel
theorem dX11_decodeFour_182 : decode cX11_decodeFour 182 = .ok (.if_icmp .ne 14, 3) := by decide +kernel
theorem dX11_decodeFour_185 : decode cX11_decodeFour 185 = .ok (.aload_n 0, 1) := by decide +kernel
theorem dX11_decodeFour_186 : decode cX11_decodeFour 186 = .ok (.iload_n 1, 1) := by decide +kernel
theorem dX11_decodeFour_187 : decode cX11_decodeFour 187 = .ok (.iload_n 2, 1) := by decide +kernel
theorem dX11_decodeFour_188 : decode cX11_decodeFour 188 = .ok (.iload 10, 2) := by decide +kernel
theorem dX11_decodeFour_190 : decode cX11_decodeFour 190 = .ok (.invokevirtual 203, 3) := by decide +kernel
theorem dX11_decodeFour_193 : decode cX11_decodeFour 193 = .ok (.goto 11, 3) := by decide +kernel
theorem dX11_decodeFour_196 : decode cX11_decodeFour 196 = .ok (.aload_n 0, 1) := by decide +kernel
theorem dX11_decodeFour_197 : decode cX11_decodeFour 197 = .ok (.iload_n 1, 1) := by decide +kernel
theorem dX11_decodeFour_198 : decode cX11_decodeFour 198 = .ok (.iload_n 2, 1) := by decide +kernel
theorem dX11_decodeFour_199 : decode cX11_decodeFour 199 = .ok (.iload 10, 2) := by decide +kernel
theorem dX11_decodeFour_201 : decode cX11_decodeFour 201 = .ok (.invokevirtual 206, 3) := by decide +kernel
theorem dX11_decodeFour_204 : decode cX11_decodeFour 204 = .ok (.istore 12, 2) := by decide +kernel
theorem dX11_decodeFour_206 : decode cX11_decodeFour 206 = .ok (.iload 11, 2) := by decide +kernel
theorem dX11_decodeFour_208 : decode cX11_decodeFour 208 = .ok (.ifCond .eq 81, 3) := by decide +kernel
theorem dX11_decodeFour_211 : decode cX11_decodeFour 211 = .ok (.iload 12, 2) := by decide +kernel
theorem dX11_decodeFour_213 : decode cX11_decodeFour 213 = .ok (.ifCond .eq 76, 3) := by decide +kernel
theorem dX11_decodeFour_216 : decode cX11_decodeFour 216 = .ok (.iload 7, 2) := by decide +kernel
theorem dX11_decodeFour_218 : decode cX11_decodeFour 218 = .ok (.ifCond .ne 8, 3) := by decide +kernel
theorem dX11_decodeFour_221 : decode cX11_decodeFour 221 = .ok (.iload 10, 2) := by decide +kernel
theorem dX11_decodeFour_223 : decode cX11_decodeFour 223 = .ok (.goto 5, 3) := by decide +kernel
theorem dX11_decodeFour_226 : decode cX11_decodeFour 226 = .ok (.iload 9, 2) := by decide +kernel
theorem dX11_decodeFour_228 : decode cX11_decodeFour 228 = .ok (.istore 9, 2) := by decide +kernel
theorem dX11_decodeFour_230 : decode cX11_decodeFour 230 = .ok (.iload 7, 2) := by decide +kernel
theorem dX11_decodeFour_232 : decode cX11_decodeFour 232 = .ok (.ifCond .ne 7, 3) := by decide +kernel
theorem dX11_decodeFour_235 : decode cX11_decodeFour 235 = .ok (.iconst 0, 1) := by decide +kernel
theorem dX11_decodeFour_236 : decode cX11_decodeFour 236 = .ok (.goto 7, 3) := by decide +kernel
theorem dX11_decodeFour_239 : decode cX11_decodeFour 239 = .ok (.iconst 2, 1) := by decide +kernel
theorem dX11_decodeFour_240 : decode cX11_decodeFour 240 = .ok (.iload 8, 2) := by decide +kernel
theorem dX11_decodeFour_242 : decode cX11_decodeFour 242 = .ok (.imul, 1) := by decide +kernel
theorem dX11_decodeFour_243 : decode cX11_decodeFour 243 = .ok (.aload_n 0, 1) := by decide +kernel
theorem dX11_decodeFour_244 : decode cX11_decodeFour 244 = .ok (.iload_n 1, 1) := by decide +kernel
theorem dX11_decodeFour_245 : decode cX11_decodeFour 245 = .ok (.iload_n 3, 1) := by decide +kernel
theorem dX11_decodeFour_246 : decode cX11_decodeFour 246 = .ok (.iload 10, 2) := by decide +kernel
theorem dX11_decodeFour_248 : decode cX11_decodeFour 248 = .ok (.invokevirtual 133, 3) := by decide +kernel
theorem dX11_decodeFour_251 : decode cX11_decodeFour 251 = .ok (.ifCond .eq 7, 3) := by decide +kernel
theorem dX11_decodeFour_254 : decode cX11_decodeFour 254 = .ok (.iconst 1, 1) := by decide +kernel
theorem dX11_decodeFour_255 : decode cX11_decodeFour 255 = .ok (.goto 4, 3) := by decide +kernel
theorem dX11_decodeFour_258 : decode cX11_decodeFour 258 = .ok (.iconst 0, 1) := by decide +kernel
theorem dX11_decodeFour_259 : decode cX11_decodeFour 259 = .ok (.iadd, 1) := by decide +kernel
theorem dX11_decodeFour_260 : decode cX11_decodeFour 260 = .ok (.istore 8, 2) := by decide +kernel
theorem dX11_decodeFour_262 : decode cX11_decodeFour 262 = .ok (.iinc 7 1, 3) := by decide +kernel
theorem dX11_decodeFour_265 : decode cX11_decodeFour 265 = .ok (.iload 7, 2) := by decide +kernel
theorem dX11_decodeFour_267 : decode cX11_decodeFour 267 = .ok (.bipush 8, 2) := by decide +kernel
theorem dX11_decodeFour_269 : decode cX11_decodeFour 269 = .ok (.if_icmp .ne 20, 3) := by decide +kernel
theorem dX11_decodeFour_272 : decode cX11_decodeFour 272 = .ok (.aload_n 0, 1) := by decide +kernel
theorem dX11_decodeFour_273 : decode cX11_decodeFour 273 = .ok (.bipush 66, 2) := by decide +kernel
theorem dX11_decodeFour_275 : decode cX11_decodeFour 275 = .ok (.iload 9, 2) := by decide +kernel
theorem dX11_decodeFour_277 : decode cX11_decodeFour 277 = .ok (.iload 10, 2) := by decide +kernel
theorem dX11_decodeFour_279 : decode cX11_decodeFour 279 = .ok (.iload 8, 2) := by decide +kernel
theorem dX11_decodeFour_281 : decode cX11_decodeFour 281 = .ok (.bipush 45, 2) := by decide +kernel
theorem dX11_decodeFour_283 : decode cX11_decodeFour 283 = .ok (.invokevirtual 241, 3) := by decide +kernel
theorem dX11_decodeFour_286 : decode cX11_decodeFour 286 = .ok (.iconst 0, 1) := by decide +kernel
theorem dX11_decodeFour_287 : decode cX11_decodeFour 287 = .ok (.istore 7, 2) := by decide +kernel
theorem dX11_decodeFour_289 : decode cX11_decodeFour 289 = .ok (.aload_n 0, 1) := by decide +kernel
theorem dX11_decodeFour_290 : decode cX11_decodeFour 290 = .ok (.iload_n 1, 1) := by decide +kernel
theorem dX11_decodeFour_291 : decode cX11_decodeFour 291 = .ok (.iload 4, 2) := by decide +kernel
theorem dX11_decodeFour_293 : decode cX11_decodeFour 293 = .ok (.iload 10, 2) := by decide +kernel
theorem dX11_decodeFour_295 : decode cX11_decodeFour 295 = .ok (.invokevirtual 203, 3) := by decide +kernel
theorem dX11_decodeFour_298 : decode cX11_decodeFour 298 = .ok (.ifCond .eq 25, 3) := by decide +kernel
theorem dX11_decodeFour_301 : decode cX11_decodeFour 301 = .ok (.iload 7, 2) := by decide +kernel
theorem dX11_decodeFour_303 : decode cX11_decodeFour 303 = .ok (.ifCond .le 20, 3) := by decide +kernel
theorem dX11_decodeFour_306 : decode cX11_decodeFour 306 = .ok (.aload_n 0, 1) := by decide +kernel
theorem dX11_decodeFour_307 : decode cX11_decodeFour 307 = .ok (.bipush 66, 2) := by decide +kernel
theorem dX11_decodeFour_309 : decode cX11_decodeFour 309 = .ok (.iload 9, 2) := by decide +kernel
theorem dX11_decodeFour_311 : decode cX11_decodeFour 311 = .ok (.iload 10, 2) := by decide +kernel
theorem dX11_decodeFour_313 : decode cX11_decodeFour 313 = .ok (.iload 8, 2) := by decide +kernel
theorem dX11_decodeFour_315 : decode cX11_decodeFour 315 = .ok (.bipush 115, 2) := by decide +kernel
theorem dX11_decodeFour_317 : decode cX11_decodeFour 317 = .ok (.invokevirtual 241, 3) := by decide +kernel
theorem dX11_decodeFour_320 : decode cX11_decodeFour 320 = .ok (.iconst 0, 1) := by decide +kernel
theorem dX11_decodeFour_321 : decode cX11_decodeFour 321 = .ok (.istore 7, 2) := by decide +kernel
theorem dX11_decodeFour_323 : decode cX11_decodeFour 323 = .ok (.iinc 10 1, 3) := by decide +kernel
theorem dX11_decodeFour_326 : decode cX11_decodeFour 326 = .ok (.goto (-197), 3) := by decide +kernel
theorem dX11_decodeFour_329 : decode cX11_decodeFour 329 = .ok (.aload_n 0, 1) := by decide +kernel
theorem dX11_decodeFour_330 : decode cX11_decodeFour 330 = .ok (.getfield 37, 3) := by decide +kernel
theorem dX11_decodeFour_333 : decode cX11_decodeFour 333 = .ok (.invokevirtual 148, 3) := by decide +kernel
theorem dX11_decodeFour_336 : decode cX11_decodeFour 336 = .ok (.ireturn, 1) := by decide +kernel
theorem dX11_notes__0 : decode cX11_notes_ 0 = .ok (.aload_n 0, 1) := by decide +kernel
theorem dX11_notes__1 : decode cX11_notes_ 1 = .ok (.iconst 0, 1) := by decide +kernel
theorem dX11_notes__2 : decode cX11_notes_ 2 = .ok (.putfield 43, 3) := by decide +kernel
theorem dX11_notes__5 : decode cX11_notes_ 5 = .ok (.aload_n 0, 1) := by decide +kernel
theorem dX11_notes__6 : decode cX11_notes_ 6 = .ok (.getfield 37, 3) := by decide +kernel
theorem dX11_notes__9 : decode cX11_notes_ 9 = .ok (.invokevirtual 148, 3) := by decide +kernel
theorem dX11_notes__12 : decode cX11_notes_ 12 = .ok (.ireturn, 1) := by decide +kernel
theorem dX11_noNote_0 : decode cX11_noNote 0 = .ok (.aload_n 0, 1) := by decide +kernel
theorem dX11_noNote_1 : decode cX11_noNote 1 = .ok (.iload_n 1, 1) := by decide +kernel
theorem dX11_noNote_2 : decode cX11_noNote 2 = .ok (.i2l, 1) := by decide +kernel
theorem dX11_noNote_3 : decode cX11_noNote 3 = .ok (.lconst 0, 1) := by decide +kernel
theorem dX11_noNote_4 : decode cX11_noNote 4 = .ok (.aload_n 0, 1) := by decide +kernel
theorem dX11_noNote_5 : decode cX11_noNote 5 = .ok (.getfield 37, 3) := by decide +kernel
theorem dX11_noNote_8 : decode cX11_noNote 8 = .ok (.invokevirtual 148, 3) := by decide +kernel
theorem dX11_noNote_11 : decode cX11_noNote 11 = .ok (.iconst 1, 1) := by decide +kernel
theorem dX11_noNote_12 : decode cX11_noNote 12 = .ok (.isub, 1) := by decide +kernel
theorem dX11_noNote_13 : decode cX11_noNote 13 = .ok (.i2l, 1) := by decide +kernel
theorem dX11_noNote_14 : decode cX11_noNote 14 = .ok (.invokestatic 49, 3) := by decide +kernel
theorem dX11_noNote_17 : decode cX11_noNote 17 = .ok (.ifCond .eq 7, 3) := by decide +kernel
theorem dX11_noNote_20 : decode cX11_noNote 20 = .ok (.iconst 0, 1) := by decide +kernel
theorem dX11_noNote_21 : decode cX11_noNote 21 = .ok (.goto 4, 3) := by decide +kernel
theorem dX11_noNote_24 : decode cX11_noNote 24 = .ok (.iconst 1, 1) := by decide +kernel
theorem dX11_noNote_25 : decode cX11_noNote 25 = .ok (.putfield 43, 3) := by decide +kernel
theorem dX11_noNote_28 : decode cX11_noNote 28 = .ok (.aload_n 0, 1) := by decide +kernel
theorem dX11_noNote_29 : decode cX11_noNote 29 = .ok (.getfield 43, 3) := by decide +kernel
theorem dX11_noNote_32 : decode cX11_noNote 32 = .ok (.ifCond .le 7, 3) := by decide +kernel
theorem dX11_noNote_35 : decode cX11_noNote 35 = .ok (.iconst 1, 1) := by decide +kernel
theorem dX11_noNote_36 : decode cX11_noNote 36 = .ok (.goto 4, 3) := by decide +kernel
theorem dX11_noNote_39 : decode cX11_noNote 39 = .ok (.iconst 0, 1) := by decide +kernel
theorem dX11_noNote_40 : decode cX11_noNote 40 = .ok (.ireturn, 1) := by decide +kernel
theorem dX11_kind_0 : decode cX11_kind 0 = .ok (.aload_n 0, 1) := by decide +kernel
theorem dX11_kind_1 : decode cX11_kind 1 = .ok (.iload_n 1, 1) := by decide +kernel
theorem dX11_kind_2 : decode cX11_kind 2 = .ok (.invokevirtual 243, 3) := by decide +kernel
theorem dX11_kind_5 : decode cX11_kind 5 = .ok (.ifCond .eq 8, 3) := by decide +kernel
theorem dX11_kind_8 : decode cX11_kind 8 = .ok (.bipush 32, 2) := by decide +kernel
theorem dX11_kind_10 : decode cX11_kind 10 = .ok (.goto 17, 3) := by decide +kernel
theorem dX11_kind_13 : decode cX11_kind 13 = .ok (.aload_n 0, 1) := by decide +kernel
theorem dX11_kind_14 : decode cX11_kind 14 = .ok (.getfield 37, 3) := by decide +kernel
theorem dX11_kind_17 : decode cX11_kind 17 = .ok (.iload_n 1, 1) := by decide +kernel
theorem dX11_kind_18 : decode cX11_kind 18 = .ok (.invokevirtual 152, 3) := by decide +kernel
theorem dX11_kind_21 : decode cX11_kind 21 = .ok (.checkcast 232, 3) := by decide +kernel
theorem dX11_kind_24 : decode cX11_kind 24 = .ok (.getfield 246, 3) := by decide +kernel
theorem dX11_kind_27 : decode cX11_kind 27 = .ok (.ireturn, 1) := by decide +kernel
theorem dX11_begin_0 : decode cX11_begin 0 = .ok (.aload_n 0, 1) := by decide +kernel
theorem dX11_begin_1 : decode cX11_begin 1 = .ok (.iload_n 1, 1) := by decide +kernel
theorem dX11_begin_2 : decode cX11_begin 2 = .ok (.invokevirtual 243, 3) := by decide +kernel
theorem dX11_begin_5 : decode cX11_begin 5 = .ok (.ifCond .eq 7, 3) := by decide +kernel
theorem dX11_begin_8 : decode cX11_begin 8 = .ok (.iconst 0, 1) := by decide +kernel
theorem dX11_begin_9 : decode cX11_begin 9 = .ok (.goto 17, 3) := by decide +kernel
theorem dX11_begin_12 : decode cX11_begin 12 = .ok (.aload_n 0, 1) := by decide +kernel
theorem dX11_begin_13 : decode cX11_begin 13 = .ok (.getfield 37, 3) := by decide +kernel
theorem dX11_begin_16 : decode cX11_begin 16 = .ok (.iload_n 1, 1) := by decide +kernel
theorem dX11_begin_17 : decode cX11_begin 17 = .ok (.invokevirtual 152, 3) := by decide +kernel
theorem dX11_begin_20 : decode cX11_begin 20 = .ok (.checkcast 232, 3) := by decide +kernel
theorem dX11_begin_23 : decode cX11_begin 23 = .ok (.getfield 247, 3) := by decide +kernel
theorem dX11_begin_26 : decode cX11_begin 26 = .ok (.ireturn, 1) := by decide +kernel
theorem dX11_end_0 : decode cX11_end 0 = .ok (.aload_n 0, 1) := by decide +kernel
theorem dX11_end_1 : decode cX11_end 1 = .ok (.iload_n 1, 1) := by decide +kernel
theorem dX11_end_2 : decode cX11_end 2 = .ok (.invokevirtual 243, 3) := by decide +kernel
theorem dX11_end_5 : decode cX11_end 5 = .ok (.ifCond .eq 7, 3) := by decide +kernel
theorem dX11_end_8 : decode cX11_end 8 = .ok (.iconst 0, 1) := by decide +kernel
theorem dX11_end_9 : decode cX11_end 9 = .ok (.goto 17, 3) := by decide +kernel
theorem dX11_end_12 : decode cX11_end 12 = .ok (.aload_n 0, 1) := by decide +kernel
theorem dX11_end_13 : decode cX11_end 13 = .ok (.getfield 37, 3) := by decide +kernel
theorem dX11_end_16 : decode cX11_end 16 = .ok (.iload_n 1, 1) := by decide +kernel
theorem dX11_end_17 : decode cX11_end 17 = .ok (.invokevirtual 152, 3) := by decide +kernel
theorem dX11_end_20 : decode cX11_end 20 = .ok (.checkcast 232, 3) := by decide +kernel
theorem dX11_end_23 : decode cX11_end 23 = .ok (.getfield 250, 3) := by decide +kernel
theorem dX11_end_26 : decode cX11_end 26 = .ok (.ireturn, 1) := by decide +kernel
theorem dX11_value_0 : decode cX11_value 0 = .ok (.aload_n 0, 1) := by decide +kernel
theorem dX11_value_1 : decode cX11_value 1 = .ok (.iload_n 1, 1) := by decide +kernel
theorem dX11_value_2 : decode cX11_value 2 = .ok (.invokevirtual 243, 3) := by decide +kernel
theorem dX11_value_5 : decode cX11_value 5 = .ok (.ifCond .eq 7, 3) := by decide +kernel
theorem dX11_value_8 : decode cX11_value 8 = .ok (.iconst 0, 1) := by decide +kernel
theorem dX11_value_9 : decode cX11_value 9 = .ok (.goto 17, 3) := by decide +kernel
theorem dX11_value_12 : decode cX11_value 12 = .ok (.aload_n 0, 1) := by decide +kernel
theorem dX11_value_13 : decode cX11_value 13 = .ok (.getfield 37, 3) := by decide +kernel
theorem dX11_value_16 : decode cX11_value 16 = .ok (.iload_n 1, 1) := by decide +kernel
theorem dX11_value_17 : decode cX11_value 17 = .ok (.invokevirtual 152, 3) := by decide +kernel
theorem dX11_value_20 : decode cX11_value 20 = .ok (.checkcast 232, 3) := by decide +kernel
theorem dX11_value_23 : decode cX11_value 23 = .ok (.getfield 253, 3) := by decide +kernel
theorem dX11_value_26 : decode cX11_value 26 = .ok (.ireturn, 1) := by decide +kernel
theorem dX11_fault_0 : decode cX11_fault 0 = .ok (.aload_n 0, 1) := by decide +kernel
theorem dX11_fault_1 : decode cX11_fault 1 = .ok (.iload_n 1, 1) := by decide +kernel
theorem dX11_fault_2 : decode cX11_fault 2 = .ok (.invokevirtual 243, 3) := by decide +kernel
theorem dX11_fault_5 : decode cX11_fault 5 = .ok (.ifCond .eq 8, 3) := by decide +kernel
theorem dX11_fault_8 : decode cX11_fault 8 = .ok (.bipush 32, 2) := by decide +kernel
theorem dX11_fault_10 : decode cX11_fault 10 = .ok (.goto 17, 3) := by decide +kernel
theorem dX11_fault_13 : decode cX11_fault 13 = .ok (.aload_n 0, 1) := by decide +kernel
theorem dX11_fault_14 : decode cX11_fault 14 = .ok (.getfield 37, 3) := by decide +kernel
theorem dX11_fault_17 : decode cX11_fault 17 = .ok (.iload_n 1, 1) := by decide +kernel
theorem dX11_fault_18 : decode cX11_fault 18 = .ok (.invokevirtual 152, 3) := by decide +kernel
theorem dX11_fault_21 : decode cX11_fault 21 = .ok (.checkcast 232, 3) := by decide +kernel
theorem dX11_fault_24 : decode cX11_fault 24 = .ok (.getfield 256, 3) := by decide +kernel
theorem dX11_fault_27 : decode cX11_fault 27 = .ok (.ireturn, 1) := by decide +kernel
theorem dX11_rate_0 : decode cX11_rate 0 = .ok (.bipush 10, 2) := by decide +kernel
theorem dX11_rate_2 : decode cX11_rate 2 = .ok (.aload_n 0, 1) := by decide +kernel
theorem dX11_rate_3 : decode cX11_rate 3 = .ok (.iload_n 1, 1) := by decide +kernel
theorem dX11_rate_4 : decode cX11_rate 4 = .ok (.iload_n 2, 1) := by decide +kernel
theorem dX11_rate_5 : decode cX11_rate 5 = .ok (.invokevirtual 259, 3) := by decide +kernel
theorem dX11_rate_8 : decode cX11_rate 8 = .ok (.imul, 1) := by decide +kernel
theorem dX11_rate_9 : decode cX11_rate 9 = .ok (.ireturn, 1) := by decide +kernel
theorem dX11_register_0 : decode cX11_register 0 = .ok (.aload_n 0, 1) := by decide +kernel
theorem dX11_register_1 : decode cX11_register 1 = .ok (.iload_n 1, 1) := by decide +kernel
theorem dX11_register_2 : decode cX11_register 2 = .ok (.i2l, 1) := by decide +kernel
theorem dX11_register_3 : decode cX11_register 3 = .ok (.lconst 0, 1) := by decide +kernel
theorem dX11_register_4 : decode cX11_register 4 = .ok (.ldc2_w 124, 3) := by decide +kernel
theorem dX11_register_7 : decode cX11_register 7 = .ok (.invokestatic 49, 3) := by decide +kernel
theorem dX11_register_10 : decode cX11_register 10 = .ok (.ifCond .eq 19, 3) := by decide +kernel
theorem dX11_register_13 : decode cX11_register 13 = .ok (.iload_n 2, 1) := by decide +kernel
theorem dX11_register_14 : decode cX11_register 14 = .ok (.i2l, 1) := by decide +kernel
theorem dX11_register_15 : decode cX11_register 15 = .ok (.lconst 0, 1) := by decide +kernel
theorem dX11_register_16 : decode cX11_register 16 = .ok (.ldc2_w 126, 3) := by decide +kernel
theorem dX11_register_19 : decode cX11_register 19 = .ok (.invokestatic 49, 3) := by decide +kernel
theorem dX11_register_22 : decode cX11_register 22 = .ok (.ifCond .eq 7, 3) := by decide +kernel
theorem dX11_register_25 : decode cX11_register 25 = .ok (.iconst 0, 1) := by decide +kernel
theorem dX11_register_26 : decode cX11_register 26 = .ok (.goto 4, 3) := by decide +kernel
theorem dX11_register_29 : decode cX11_register 29 = .ok (.iconst 1, 1) := by decide +kernel
theorem dX11_register_30 : decode cX11_register 30 = .ok (.putfield 43, 3) := by decide +kernel
theorem dX11_register_33 : decode cX11_register 33 = .ok (.aload_n 0, 1) := by decide +kernel
theorem dX11_register_34 : decode cX11_register 34 = .ok (.getfield 43, 3) := by decide +kernel
theorem dX11_register_37 : decode cX11_register 37 = .ok (.ifCond .le 7, 3) := by decide +kernel
theorem dX11_register_40 : decode cX11_register 40 = .ok (.iconst 0, 1) := by decide +kernel
theorem dX11_register_41 : decode cX11_register 41 = .ok (.goto 11, 3) := by decide +kernel
theorem dX11_register_44 : decode cX11_register 44 = .ok (.aload_n 0, 1) := by decide +kernel
theorem dX11_register_45 : decode cX11_register 45 = .ok (.getfield 40, 3) := by decide +kernel
theorem dX11_register_48 : decode cX11_register 48 = .ok (.iload_n 1, 1) := by decide +kernel
theorem dX11_register_49 : decode cX11_register 49 = .ok (.aaload, 1) := by decide +kernel
theorem dX11_register_50 : decode cX11_register 50 = .ok (.iload_n 2, 1) := by decide +kernel
theorem dX11_register_51 : decode cX11_register 51 = .ok (.iaload, 1) := by decide +kernel
theorem dX11_register_52 : decode cX11_register 52 = .ok (.ireturn, 1) := by decide +kernel
theorem dX11_follows_0 : decode cX11_follows 0 = .ok (.aload_n 0, 1) := by decide +kernel
theorem dX11_follows_1 : decode cX11_follows 1 = .ok (.iload_n 1, 1) := by decide +kernel
theorem dX11_follows_2 : decode cX11_follows 2 = .ok (.i2l, 1) := by decide +kernel
theorem dX11_follows_3 : decode cX11_follows 3 = .ok (.lconst 0, 1) := by decide +kernel
theorem dX11_follows_4 : decode cX11_follows 4 = .ok (.ldc2_w 96, 3) := by decide +kernel
theorem dX11_follows_7 : decode cX11_follows 7 = .ok (.invokestatic 49, 3) := by decide +kernel
theorem dX11_follows_10 : decode cX11_follows 10 = .ok (.ifCond .eq 19, 3) := by decide +kernel
theorem dX11_follows_13 : decode cX11_follows 13 = .ok (.iload_n 2, 1) := by decide +kernel
theorem dX11_follows_14 : decode cX11_follows 14 = .ok (.i2l, 1) := by decide +kernel
theorem dX11_follows_15 : decode cX11_follows 15 = .ok (.lconst 0, 1) := by decide +kernel
theorem dX11_follows_16 : decode cX11_follows 16 = .ok (.ldc2_w 96, 3) := by decide +kernel
theorem dX11_follows_19 : decode cX11_follows 19 = .ok (.invokestatic 49, 3) := by decide +kernel
theorem dX11_follows_22 : decode cX11_follows 22 = .ok (.ifCond .eq 7, 3) := by decide +kernel
theorem dX11_follows_25 : decode cX11_follows 25 = .ok (.iconst 0, 1) := by decide +kernel
theorem dX11_follows_26 : decode cX11_follows 26 = .ok (.goto 4, 3) := by decide +kernel
theorem dX11_follows_29 : decode cX11_follows 29 = .ok (.iconst 1, 1) := by decide +kernel
theorem dX11_follows_30 : decode cX11_follows 30 = .ok (.putfield 43, 3) := by decide +kernel
theorem dX11_follows_33 : decode cX11_follows 33 = .ok (.iconst 0, 1) := by decide +kernel
theorem dX11_follows_34 : decode cX11_follows 34 = .ok (.istore_n 3, 1) := by decide +kernel
theorem dX11_follows_35 : decode cX11_follows 35 = .ok (.iconst (-1), 1) := by decide +kernel
theorem dX11_follows_36 : decode cX11_follows 36 = .ok (.istore 4, 2) := by decide +kernel
theorem dX11_follows_38 : decode cX11_follows 38 = .ok (.aload_n 0, 1) := by decide +kernel
theorem dX11_follows_39 : decode cX11_follows 39 = .ok (.getfield 37, 3) := by decide +kernel
theorem dX11_follows_42 : decode cX11_follows 42 = .ok (.invokevirtual 216, 3) := by decide +kernel
theorem dX11_follows_45 : decode cX11_follows 45 = .ok (.astore 5, 2) := by decide +kernel
theorem dX11_follows_47 : decode cX11_follows 47 = .ok (.aload 5, 2) := by decide +kernel
theorem dX11_follows_49 : decode cX11_follows 49 = .ok (.invokeinterface 220 1, 5) := by decide +kernel
theorem dX11_follows_54 : decode cX11_follows 54 = .ok (.ifCond .eq 63, 3) := by decide +kernel
theorem dX11_follows_57 : decode cX11_follows 57 = .ok (.aload 5, 2) := by decide +kernel
theorem dX11_follows_59 : decode cX11_follows 59 = .ok (.invokeinterface 225 1, 5) := by decide +kernel
theorem dX11_follows_64 : decode cX11_follows 64 = .ok (.checkcast 232, 3) := by decide +kernel
theorem dX11_follows_67 : decode cX11_follows 67 = .ok (.astore 6, 2) := by decide +kernel
theorem dX11_follows_69 : decode cX11_follows 69 = .ok (.aload 6, 2) := by decide +kernel
theorem dX11_follows_71 : decode cX11_follows 71 = .ok (.invokevirtual 262, 3) := by decide +kernel
theorem dX11_follows_74 : decode cX11_follows 74 = .ok (.ifCond .eq 40, 3) := by decide +kernel
theorem dX11_follows_77 : decode cX11_follows 77 = .ok (.iload_n 3, 1) := by decide +kernel
theorem dX11_follows_78 : decode cX11_follows 78 = .ok (.aload_n 0, 1) := by decide +kernel
theorem dX11_follows_79 : decode cX11_follows 79 = .ok (.getfield 43, 3) := by decide +kernel
theorem dX11_follows_82 : decode cX11_follows 82 = .ok (.ifCond .ne 22, 3) := by decide +kernel
theorem dX11_follows_85 : decode cX11_follows 85 = .ok (.iload 4, 2) := by decide +kernel
theorem dX11_follows_87 : decode cX11_follows 87 = .ok (.iload_n 1, 1) := by decide +kernel
theorem dX11_follows_88 : decode cX11_follows 88 = .ok (.if_icmp .ne 16, 3) := by decide +kernel
theorem dX11_follows_91 : decode cX11_follows 91 = .ok (.aload 6, 2) := by decide +kernel
theorem dX11_follows_93 : decode cX11_follows 93 = .ok (.getfield 253, 3) := by decide +kernel
theorem dX11_follows_96 : decode cX11_follows 96 = .ok (.iload_n 2, 1) := by decide +kernel
theorem dX11_follows_97 : decode cX11_follows 97 = .ok (.if_icmp .ne 7, 3) := by decide +kernel
theorem dX11_follows_100 : decode cX11_follows 100 = .ok (.iconst 1, 1) := by decide +kernel
theorem dX11_follows_101 : decode cX11_follows 101 = .ok (.goto 4, 3) := by decide +kernel
theorem dX11_follows_104 : decode cX11_follows 104 = .ok (.iconst 0, 1) := by decide +kernel
theorem dX11_follows_105 : decode cX11_follows 105 = .ok (.iadd, 1) := by decide +kernel
theorem dX11_follows_106 : decode cX11_follows 106 = .ok (.istore_n 3, 1) := by decide +kernel
theorem dX11_follows_107 : decode cX11_follows 107 = .ok (.aload 6, 2) := by decide +kernel
theorem dX11_follows_109 : decode cX11_follows 109 = .ok (.getfield 253, 3) := by decide +kernel
theorem dX11_follows_112 : decode cX11_follows 112 = .ok (.istore 4, 2) := by decide +kernel
theorem dX11_follows_114 : decode cX11_follows 114 = .ok (.goto (-67), 3) := by decide +kernel
theorem dX11_follows_117 : decode cX11_follows 117 = .ok (.iload_n 3, 1) := by decide +kernel
theorem dX11_follows_118 : decode cX11_follows 118 = .ok (.ireturn, 1) := by decide +kernel
theorem dX11_beside_0 : decode cX11_beside 0 = .ok (.iconst 0, 1) := by decide +kernel
theorem dX11_beside_1 : decode cX11_beside 1 = .ok (.istore_n 3, 1) := by decide +kernel
theorem dX11_beside_2 : decode cX11_beside 2 = .ok (.iconst 0, 1) := by decide +kernel
theorem dX11_beside_3 : decode cX11_beside 3 = .ok (.istore 4, 2) := by decide +kernel
theorem dX11_beside_5 : decode cX11_beside 5 = .ok (.iload 4, 2) := by decide +kernel
theorem dX11_beside_7 : decode cX11_beside 7 = .ok (.aload_n 0, 1) := by decide +kernel
theorem dX11_beside_8 : decode cX11_beside 8 = .ok (.getfield 27, 3) := by decide +kernel
theorem dX11_beside_11 : decode cX11_beside 11 = .ok (.iconst 0, 1) := by decide +kernel
theorem dX11_beside_12 : decode cX11_beside 12 = .ok (.aaload, 1) := by decide +kernel
theorem dX11_beside_13 : decode cX11_beside 13 = .ok (.arraylength, 1) := by decide +kernel
theorem dX11_beside_14 : decode cX11_beside 14 = .ok (.if_icmp .ge 88, 3) := by decide +kernel
theorem dX11_beside_17 : decode cX11_beside 17 = .ok (.iload 4, 2) := by decide +kernel
theorem dX11_beside_19 : decode cX11_beside 19 = .ok (.iload_n 1, 1) := by decide +kernel
theorem dX11_beside_20 : decode cX11_beside 20 = .ok (.iadd, 1) := by decide +kernel
theorem dX11_beside_21 : decode cX11_beside 21 = .ok (.istore 5, 2) := by decide +kernel
theorem dX11_beside_23 : decode cX11_beside 23 = .ok (.iload 5, 2) := by decide +kernel
theorem dX11_beside_25 : decode cX11_beside 25 = .ok (.i2l, 1) := by decide +kernel
theorem dX11_beside_26 : decode cX11_beside 26 = .ok (.lconst 0, 1) := by decide +kernel
theorem dX11_beside_27 : decode cX11_beside 27 = .ok (.aload_n 0, 1) := by decide +kernel
theorem dX11_beside_28 : decode cX11_beside 28 = .ok (.getfield 27, 3) := by decide +kernel
theorem dX11_beside_31 : decode cX11_beside 31 = .ok (.iconst 1, 1) := by decide +kernel
theorem dX11_beside_32 : decode cX11_beside 32 = .ok (.aaload, 1) := by decide +kernel
theorem dX11_beside_33 : decode cX11_beside 33 = .ok (.arraylength, 1) := by decide +kernel
theorem dX11_beside_34 : decode cX11_beside 34 = .ok (.iconst 1, 1) := by decide +kernel
theorem dX11_beside_35 : decode cX11_beside 35 = .ok (.isub, 1) := by decide +kernel
theorem dX11_beside_36 : decode cX11_beside 36 = .ok (.i2l, 1) := by decide +kernel
theorem dX11_beside_37 : decode cX11_beside 37 = .ok (.invokestatic 49, 3) := by decide +kernel
theorem dX11_beside_40 : decode cX11_beside 40 = .ok (.ifCond .eq 56, 3) := by decide +kernel
theorem dX11_beside_43 : decode cX11_beside 43 = .ok (.aload_n 0, 1) := by decide +kernel
theorem dX11_beside_44 : decode cX11_beside 44 = .ok (.getfield 27, 3) := by decide +kernel
theorem dX11_beside_47 : decode cX11_beside 47 = .ok (.iconst 0, 1) := by decide +kernel
theorem dX11_beside_48 : decode cX11_beside 48 = .ok (.aaload, 1) := by decide +kernel
theorem dX11_beside_49 : decode cX11_beside 49 = .ok (.iload 4, 2) := by decide +kernel
theorem dX11_beside_51 : decode cX11_beside 51 = .ok (.iaload, 1) := by decide +kernel
theorem dX11_beside_52 : decode cX11_beside 52 = .ok (.aload_n 0, 1) := by decide +kernel
theorem dX11_beside_53 : decode cX11_beside 53 = .ok (.getfield 27, 3) := by decide +kernel
theorem dX11_beside_56 : decode cX11_beside 56 = .ok (.iconst 1, 1) := by decide +kernel
theorem dX11_beside_57 : decode cX11_beside 57 = .ok (.aaload, 1) := by decide +kernel
theorem dX11_beside_58 : decode cX11_beside 58 = .ok (.iload 5, 2) := by decide +kernel
theorem dX11_beside_60 : decode cX11_beside 60 = .ok (.iaload, 1) := by decide +kernel
theorem dX11_beside_61 : decode cX11_beside 61 = .ok (.if_icmp .ne 7, 3) := by decide +kernel
theorem dX11_beside_64 : decode cX11_beside 64 = .ok (.iconst 1, 1) := by decide +kernel
theorem dX11_beside_65 : decode cX11_beside 65 = .ok (.goto 4, 3) := by decide +kernel
theorem dX11_beside_68 : decode cX11_beside 68 = .ok (.iconst 0, 1) := by decide +kernel
theorem dX11_beside_69 : decode cX11_beside 69 = .ok (.istore 6, 2) := by decide +kernel
theorem dX11_beside_71 : decode cX11_beside 71 = .ok (.iload_n 2, 1) := by decide +kernel
theorem dX11_beside_72 : decode cX11_beside 72 = .ok (.ifCond .ne 11, 3) := by decide +kernel
theorem dX11_beside_75 : decode cX11_beside 75 = .ok (.iload 6, 2) := by decide +kernel
theorem dX11_beside_77 : decode cX11_beside 77 = .ok (.ifCond .ne 6, 3) := by decide +kernel
theorem dX11_beside_80 : decode cX11_beside 80 = .ok (.iload 4, 2) := by decide +kernel
theorem dX11_beside_82 : decode cX11_beside 82 = .ok (.ireturn, 1) := by decide +kernel
theorem dX11_beside_83 : decode cX11_beside 83 = .ok (.iload_n 3, 1) := by decide +kernel
theorem dX11_beside_84 : decode cX11_beside 84 = .ok (.iload 6, 2) := by decide +kernel
theorem dX11_beside_86 : decode cX11_beside 86 = .ok (.ifCond .eq 7, 3) := by decide +kernel
theorem dX11_beside_89 : decode cX11_beside 89 = .ok (.iconst 1, 1) := by decide +kernel
theorem dX11_beside_90 : decode cX11_beside 90 = .ok (.goto 4, 3) := by decide +kernel
theorem dX11_beside_93 : decode cX11_beside 93 = .ok (.iconst 0, 1) := by decide +kernel
theorem dX11_beside_94 : decode cX11_beside 94 = .ok (.iadd, 1) := by decide +kernel
theorem dX11_beside_95 : decode cX11_beside 95 = .ok (.istore_n 3, 1) := by decide +kernel
theorem dX11_beside_96 : decode cX11_beside 96 = .ok (.iinc 4 1, 3) := by decide +kernel
theorem dX11_beside_99 : decode cX11_beside 99 = .ok (.goto (-94), 3) := by decide +kernel
theorem dX11_beside_102 : decode cX11_beside 102 = .ok (.iload_n 2, 1) := by decide +kernel
theorem dX11_beside_103 : decode cX11_beside 103 = .ok (.ifCond .eq 7, 3) := by decide +kernel
theorem dX11_beside_106 : decode cX11_beside 106 = .ok (.iload_n 3, 1) := by decide +kernel
theorem dX11_beside_107 : decode cX11_beside 107 = .ok (.goto 4, 3) := by decide +kernel
theorem dX11_beside_110 : decode cX11_beside 110 = .ok (.iconst (-1), 1) := by decide +kernel
theorem dX11_beside_111 : decode cX11_beside 111 = .ok (.ireturn, 1) := by decide +kernel
theorem dX11_noOffset_0 : decode cX11_noOffset 0 = .ok (.aload_n 0, 1) := by decide +kernel
theorem dX11_noOffset_1 : decode cX11_noOffset 1 = .ok (.iload_n 1, 1) := by decide +kernel
theorem dX11_noOffset_2 : decode cX11_noOffset 2 = .ok (.i2l, 1) := by decide +kernel
theorem dX11_noOffset_3 : decode cX11_noOffset 3 = .ok (.ldc2_w 265, 3) := by decide +kernel
theorem dX11_noOffset_6 : decode cX11_noOffset 6 = .ok (.ldc2_w 267, 3) := by decide +kernel
theorem dX11_noOffset_9 : decode cX11_noOffset 9 = .ok (.invokestatic 49, 3) := by decide +kernel
theorem dX11_noOffset_12 : decode cX11_noOffset 12 = .ok (.ifCond .eq 7, 3) := by decide +kernel
theorem dX11_noOffset_15 : decode cX11_noOffset 15 = .ok (.iconst 0, 1) := by decide +kernel
theorem dX11_noOffset_16 : decode cX11_noOffset 16 = .ok (.goto 4, 3) := by decide +kernel
theorem dX11_noOffset_19 : decode cX11_noOffset 19 = .ok (.iconst 1, 1) := by decide +kernel
theorem dX11_noOffset_20 : decode cX11_noOffset 20 = .ok (.putfield 43, 3) := by decide +kernel
theorem dX11_noOffset_23 : decode cX11_noOffset 23 = .ok (.aload_n 0, 1) := by decide +kernel
theorem dX11_noOffset_24 : decode cX11_noOffset 24 = .ok (.getfield 43, 3) := by decide +kernel
theorem dX11_noOffset_27 : decode cX11_noOffset 27 = .ok (.ifCond .le 7, 3) := by decide +kernel
theorem dX11_noOffset_30 : decode cX11_noOffset 30 = .ok (.iconst 1, 1) := by decide +kernel
theorem dX11_noOffset_31 : decode cX11_noOffset 31 = .ok (.goto 4, 3) := by decide +kernel
theorem dX11_noOffset_34 : decode cX11_noOffset 34 = .ok (.iconst 0, 1) := by decide +kernel
theorem dX11_noOffset_35 : decode cX11_noOffset 35 = .ok (.ireturn, 1) := by decide +kernel
theorem dX11_alike_0 : decode cX11_alike 0 = .ok (.aload_n 0, 1) := by decide +kernel
theorem dX11_alike_1 : decode cX11_alike 1 = .ok (.iload_n 1, 1) := by decide +kernel
theorem dX11_alike_2 : decode cX11_alike 2 = .ok (.invokevirtual 269, 3) := by decide +kernel
theorem dX11_alike_5 : decode cX11_alike 5 = .ok (.ifCond .eq 7, 3) := by decide +kernel
theorem dX11_alike_8 : decode cX11_alike 8 = .ok (.iconst 0, 1) := by decide +kernel
theorem dX11_alike_9 : decode cX11_alike 9 = .ok (.goto 9, 3) := by decide +kernel
theorem dX11_alike_12 : decode cX11_alike 12 = .ok (.aload_n 0, 1) := by decide +kernel
theorem dX11_alike_13 : decode cX11_alike 13 = .ok (.iload_n 1, 1) := by decide +kernel
theorem dX11_alike_14 : decode cX11_alike 14 = .ok (.iconst 1, 1) := by decide +kernel
theorem dX11_alike_15 : decode cX11_alike 15 = .ok (.invokevirtual 272, 3) := by decide +kernel
theorem dX11_alike_18 : decode cX11_alike 18 = .ok (.ireturn, 1) := by decide +kernel
theorem dX11_differs_0 : decode cX11_differs 0 = .ok (.aload_n 0, 1) := by decide +kernel
theorem dX11_differs_1 : decode cX11_differs 1 = .ok (.iload_n 1, 1) := by decide +kernel
theorem dX11_differs_2 : decode cX11_differs 2 = .ok (.invokevirtual 269, 3) := by decide +kernel
theorem dX11_differs_5 : decode cX11_differs 5 = .ok (.ifCond .eq 5, 3) := by decide +kernel
theorem dX11_differs_8 : decode cX11_differs 8 = .ok (.iconst 0, 1) := by decide +kernel
theorem dX11_differs_9 : decode cX11_differs 9 = .ok (.ireturn, 1) := by decide +kernel
theorem dX11_differs_10 : decode cX11_differs 10 = .ok (.aload_n 0, 1) := by decide +kernel
theorem dX11_differs_11 : decode cX11_differs 11 = .ok (.iload_n 1, 1) := by decide +kernel
theorem dX11_differs_12 : decode cX11_differs 12 = .ok (.iconst 0, 1) := by decide +kernel
theorem dX11_differs_13 : decode cX11_differs 13 = .ok (.invokevirtual 272, 3) := by decide +kernel
theorem dX11_differs_16 : decode cX11_differs 16 = .ok (.istore_n 2, 1) := by decide +kernel
theorem dX11_differs_17 : decode cX11_differs 17 = .ok (.aload_n 0, 1) := by decide +kernel
theorem dX11_differs_18 : decode cX11_differs 18 = .ok (.iload_n 2, 1) := by decide +kernel
theorem dX11_differs_19 : decode cX11_differs 19 = .ok (.iconst (-1), 1) := by decide +kernel
theorem dX11_differs_20 : decode cX11_differs 20 = .ok (.if_icmp .ne 7, 3) := by decide +kernel
theorem dX11_differs_23 : decode cX11_differs 23 = .ok (.iconst 2, 1) := by decide +kernel
theorem dX11_differs_24 : decode cX11_differs 24 = .ok (.goto 4, 3) := by decide +kernel
theorem dX11_differs_27 : decode cX11_differs 27 = .ok (.iconst 0, 1) := by decide +kernel
theorem dX11_differs_28 : decode cX11_differs 28 = .ok (.putfield 43, 3) := by decide +kernel
theorem dX11_differs_31 : decode cX11_differs 31 = .ok (.aload_n 0, 1) := by decide +kernel
theorem dX11_differs_32 : decode cX11_differs 32 = .ok (.getfield 43, 3) := by decide +kernel
theorem dX11_differs_35 : decode cX11_differs 35 = .ok (.ifCond .le 7, 3) := by decide +kernel
theorem dX11_differs_38 : decode cX11_differs 38 = .ok (.iconst 0, 1) := by decide +kernel
theorem dX11_differs_39 : decode cX11_differs 39 = .ok (.goto 4, 3) := by decide +kernel
theorem dX11_differs_42 : decode cX11_differs 42 = .ok (.iload_n 2, 1) := by decide +kernel
theorem dX11_differs_43 : decode cX11_differs 43 = .ok (.ireturn, 1) := by decide +kernel
theorem dX11_best_0 : decode cX11_best 0 = .ok (.aload_n 0, 1) := by decide +kernel
theorem dX11_best_1 : decode cX11_best 1 = .ok (.iload_n 1, 1) := by decide +kernel
theorem dX11_best_2 : decode cX11_best 2 = .ok (.i2l, 1) := by decide +kernel
theorem dX11_best_3 : decode cX11_best 3 = .ok (.lconst 0, 1) := by decide +kernel
theorem dX11_best_4 : decode cX11_best 4 = .ok (.ldc2_w 75, 3) := by decide +kernel
theorem dX11_best_7 : decode cX11_best 7 = .ok (.invokestatic 49, 3) := by decide +kernel
theorem dX11_best_10 : decode cX11_best 10 = .ok (.ifCond .ne 7, 3) := by decide +kernel
theorem dX11_best_13 : decode cX11_best 13 = .ok (.iconst 1, 1) := by decide +kernel
theorem dX11_best_14 : decode cX11_best 14 = .ok (.goto 28, 3) := by decide +kernel
theorem dX11_best_17 : decode cX11_best 17 = .ok (.aload_n 0, 1) := by decide +kernel
theorem dX11_best_18 : decode cX11_best 18 = .ok (.getfield 27, 3) := by decide +kernel
theorem dX11_best_21 : decode cX11_best 21 = .ok (.iconst 0, 1) := by decide +kernel
theorem dX11_best_22 : decode cX11_best 22 = .ok (.aaload, 1) := by decide +kernel
theorem dX11_best_23 : decode cX11_best 23 = .ok (.arraylength, 1) := by decide +kernel
theorem dX11_best_24 : decode cX11_best 24 = .ok (.ifCond .eq 13, 3) := by decide +kernel
theorem dX11_best_27 : decode cX11_best 27 = .ok (.aload_n 0, 1) := by decide +kernel
theorem dX11_best_28 : decode cX11_best 28 = .ok (.getfield 27, 3) := by decide +kernel
theorem dX11_best_31 : decode cX11_best 31 = .ok (.iconst 1, 1) := by decide +kernel
theorem dX11_best_32 : decode cX11_best 32 = .ok (.aaload, 1) := by decide +kernel
theorem dX11_best_33 : decode cX11_best 33 = .ok (.arraylength, 1) := by decide +kernel
theorem dX11_best_34 : decode cX11_best 34 = .ok (.ifCond .ne 7, 3) := by decide +kernel
theorem dX11_best_37 : decode cX11_best 37 = .ok (.iconst 2, 1) := by decide +kernel
theorem dX11_best_38 : decode cX11_best 38 = .ok (.goto 4, 3) := by decide +kernel
theorem dX11_best_41 : decode cX11_best 41 = .ok (.iconst 0, 1) := by decide +kernel
theorem dX11_best_42 : decode cX11_best 42 = .ok (.putfield 43, 3) := by decide +kernel
theorem dX11_best_45 : decode cX11_best 45 = .ok (.aload_n 0, 1) := by decide +kernel
theorem dX11_best_46 : decode cX11_best 46 = .ok (.getfield 43, 3) := by decide +kernel
theorem dX11_best_49 : decode cX11_best 49 = .ok (.ifCond .le 5, 3) := by decide +kernel
theorem dX11_best_52 : decode cX11_best 52 = .ok (.iconst 0, 1) := by decide +kernel
theorem dX11_best_53 : decode cX11_best 53 = .ok (.ireturn, 1) := by decide +kernel
theorem dX11_best_54 : decode cX11_best 54 = .ok (.iconst 0, 1) := by decide +kernel
theorem dX11_best_55 : decode cX11_best 55 = .ok (.istore_n 2, 1) := by decide +kernel
theorem dX11_best_56 : decode cX11_best 56 = .ok (.iconst 1, 1) := by decide +kernel
theorem dX11_best_57 : decode cX11_best 57 = .ok (.istore_n 3, 1) := by decide +kernel
theorem dX11_best_58 : decode cX11_best 58 = .ok (.iload_n 3, 1) := by decide +kernel
theorem dX11_best_59 : decode cX11_best 59 = .ok (.iload_n 1, 1) := by decide +kernel
theorem dX11_best_60 : decode cX11_best 60 = .ok (.if_icmp .gt 53, 3) := by decide +kernel
theorem dX11_best_63 : decode cX11_best 63 = .ok (.aload_n 0, 1) := by decide +kernel
theorem dX11_best_64 : decode cX11_best 64 = .ok (.iload_n 3, 1) := by decide +kernel
theorem dX11_best_65 : decode cX11_best 65 = .ok (.ineg, 1) := by decide +kernel
theorem dX11_best_66 : decode cX11_best 66 = .ok (.iconst 1, 1) := by decide +kernel
theorem dX11_best_67 : decode cX11_best 67 = .ok (.invokevirtual 272, 3) := by decide +kernel
theorem dX11_best_70 : decode cX11_best 70 = .ok (.aload_n 0, 1) := by decide +kernel
theorem dX11_best_71 : decode cX11_best 71 = .ok (.iload_n 2, 1) := by decide +kernel
theorem dX11_best_72 : decode cX11_best 72 = .ok (.iconst 1, 1) := by decide +kernel
theorem dX11_best_73 : decode cX11_best 73 = .ok (.invokevirtual 272, 3) := by decide +kernel
theorem dX11_best_76 : decode cX11_best 76 = .ok (.if_icmp .le 8, 3) := by decide +kernel
theorem dX11_best_79 : decode cX11_best 79 = .ok (.iload_n 3, 1) := by decide +kernel
theorem dX11_best_80 : decode cX11_best 80 = .ok (.ineg, 1) := by decide +kernel
theorem dX11_best_81 : decode cX11_best 81 = .ok (.goto 4, 3) := by decide +kernel
theorem dX11_best_84 : decode cX11_best 84 = .ok (.iload_n 2, 1) := by decide +kernel
theorem dX11_best_85 : decode cX11_best 85 = .ok (.istore_n 2, 1) := by decide +kernel
theorem dX11_best_86 : decode cX11_best 86 = .ok (.aload_n 0, 1) := by decide +kernel
theorem dX11_best_87 : decode cX11_best 87 = .ok (.iload_n 3, 1) := by decide +kernel
theorem dX11_best_88 : decode cX11_best 88 = .ok (.iconst 1, 1) := by decide +kernel
theorem dX11_best_89 : decode cX11_best 89 = .ok (.invokevirtual 272, 3) := by decide +kernel
theorem dX11_best_92 : decode cX11_best 92 = .ok (.aload_n 0, 1) := by decide +kernel
theorem dX11_best_93 : decode cX11_best 93 = .ok (.iload_n 2, 1) := by decide +kernel
theorem dX11_best_94 : decode cX11_best 94 = .ok (.iconst 1, 1) := by decide +kernel
theorem dX11_best_95 : decode cX11_best 95 = .ok (.invokevirtual 272, 3) := by decide +kernel
theorem dX11_best_98 : decode cX11_best 98 = .ok (.if_icmp .le 7, 3) := by decide +kernel
theorem dX11_best_101 : decode cX11_best 101 = .ok (.iload_n 3, 1) := by decide +kernel
theorem dX11_best_102 : decode cX11_best 102 = .ok (.goto 4, 3) := by decide +kernel
theorem dX11_best_105 : decode cX11_best 105 = .ok (.iload_n 2, 1) := by decide +kernel
theorem dX11_best_106 : decode cX11_best 106 = .ok (.istore_n 2, 1) := by decide +kernel
theorem dX11_best_107 : decode cX11_best 107 = .ok (.iinc 3 1, 3) := by decide +kernel
theorem dX11_best_110 : decode cX11_best 110 = .ok (.goto (-52), 3) := by decide +kernel
theorem dX11_best_113 : decode cX11_best 113 = .ok (.iload_n 2, 1) := by decide +kernel
theorem dX11_best_114 : decode cX11_best 114 = .ok (.ireturn, 1) := by decide +kernel
theorem dX11_flips_0 : decode cX11_flips 0 = .ok (.aload_n 0, 1) := by decide +kernel
theorem dX11_flips_1 : decode cX11_flips 1 = .ok (.iconst 0, 1) := by decide +kernel
theorem dX11_flips_2 : decode cX11_flips 2 = .ok (.putfield 43, 3) := by decide +kernel
theorem dX11_flips_5 : decode cX11_flips 5 = .ok (.iconst 0, 1) := by decide +kernel
theorem dX11_flips_6 : decode cX11_flips 6 = .ok (.istore_n 1, 1) := by decide +kernel
theorem dX11_flips_7 : decode cX11_flips 7 = .ok (.iconst 0, 1) := by decide +kernel
theorem dX11_flips_8 : decode cX11_flips 8 = .ok (.istore_n 2, 1) := by decide +kernel
theorem dX11_flips_9 : decode cX11_flips 9 = .ok (.iload_n 2, 1) := by decide +kernel
theorem dX11_flips_10 : decode cX11_flips 10 = .ok (.iconst 4, 1) := by decide +kernel
theorem dX11_flips_11 : decode cX11_flips 11 = .ok (.if_icmp .ge 17, 3) := by decide +kernel
theorem dX11_flips_14 : decode cX11_flips 14 = .ok (.iload_n 1, 1) := by decide +kernel
theorem dX11_flips_15 : decode cX11_flips 15 = .ok (.aload_n 0, 1) := by decide +kernel
theorem dX11_flips_16 : decode cX11_flips 16 = .ok (.iload_n 2, 1) := by decide +kernel
theorem dX11_flips_17 : decode cX11_flips 17 = .ok (.invokevirtual 62, 3) := by decide +kernel
theorem dX11_flips_20 : decode cX11_flips 20 = .ok (.iadd, 1) := by decide +kernel
theorem dX11_flips_21 : decode cX11_flips 21 = .ok (.istore_n 1, 1) := by decide +kernel
theorem dX11_flips_22 : decode cX11_flips 22 = .ok (.iinc 2 1, 3) := by decide +kernel
theorem dX11_flips_25 : decode cX11_flips 25 = .ok (.goto (-16), 3) := by decide +kernel
theorem dX11_flips_28 : decode cX11_flips 28 = .ok (.iload_n 1, 1) := by decide +kernel
theorem dX11_flips_29 : decode cX11_flips 29 = .ok (.ireturn, 1) := by decide +kernel
theorem dX11_checksum_0 : decode cX11_checksum 0 = .ok (.aload_n 0, 1) := by decide +kernel
theorem dX11_checksum_1 : decode cX11_checksum 1 = .ok (.iconst 0, 1) := by decide +kernel
theorem dX11_checksum_2 : decode cX11_checksum 2 = .ok (.putfield 43, 3) := by decide +kernel
theorem dX11_checksum_5 : decode cX11_checksum 5 = .ok (.ldc2_w 276, 3) := by decide +kernel
theorem dX11_checksum_8 : decode cX11_checksum 8 = .ok (.lstore_n 1, 1) := by decide +kernel
theorem dX11_checksum_9 : decode cX11_checksum 9 = .ok (.aload_n 0, 1) := by decide +kernel
theorem dX11_checksum_10 : decode cX11_checksum 10 = .ok (.getfield 27, 3) := by decide +kernel
theorem dX11_checksum_13 : decode cX11_checksum 13 = .ok (.astore_n 3, 1) := by decide +kernel
theorem dX11_checksum_14 : decode cX11_checksum 14 = .ok (.aload_n 3, 1) := by decide +kernel
theorem dX11_checksum_15 : decode cX11_checksum 15 = .ok (.arraylength, 1) := by decide +kernel
theorem dX11_checksum_16 : decode cX11_checksum 16 = .ok (.istore 4, 2) := by decide +kernel
theorem dX11_checksum_18 : decode cX11_checksum 18 = .ok (.iconst 0, 1) := by decide +kernel
theorem dX11_checksum_19 : decode cX11_checksum 19 = .ok (.istore 5, 2) := by decide +kernel
theorem dX11_checksum_21 : decode cX11_checksum 21 = .ok (.iload 5, 2) := by decide +kernel
theorem dX11_checksum_23 : decode cX11_checksum 23 = .ok (.iload 4, 2) := by decide +kernel
theorem dX11_checksum_25 : decode cX11_checksum 25 = .ok (.if_icmp .ge 57, 3) := by decide +kernel
theorem dX11_checksum_28 : decode cX11_checksum 28 = .ok (.aload_n 3, 1) := by decide +kernel
theorem dX11_checksum_29 : decode cX11_checksum 29 = .ok (.iload 5, 2) := by decide +kernel
theorem dX11_checksum_31 : decode cX11_checksum 31 = .ok (.aaload, 1) := by decide +kernel
theorem dX11_checksum_32 : decode cX11_checksum 32 = .ok (.astore 6, 2) := by decide +kernel
theorem dX11_checksum_34 : decode cX11_checksum 34 = .ok (.aload 6, 2) := by decide +kernel
theorem dX11_checksum_36 : decode cX11_checksum 36 = .ok (.astore 7, 2) := by decide +kernel
theorem dX11_checksum_38 : decode cX11_checksum 38 = .ok (.aload 7, 2) := by decide +kernel
theorem dX11_checksum_40 : decode cX11_checksum 40 = .ok (.arraylength, 1) := by decide +kernel
theorem dX11_checksum_41 : decode cX11_checksum 41 = .ok (.istore 8, 2) := by decide +kernel
theorem dX11_checksum_43 : decode cX11_checksum 43 = .ok (.iconst 0, 1) := by decide +kernel
theorem dX11_checksum_44 : decode cX11_checksum 44 = .ok (.istore 9, 2) := by decide +kernel
theorem dX11_checksum_46 : decode cX11_checksum 46 = .ok (.iload 9, 2) := by decide +kernel
theorem dX11_checksum_48 : decode cX11_checksum 48 = .ok (.iload 8, 2) := by decide +kernel
theorem dX11_checksum_50 : decode cX11_checksum 50 = .ok (.if_icmp .ge 26, 3) := by decide +kernel
theorem dX11_checksum_53 : decode cX11_checksum 53 = .ok (.aload 7, 2) := by decide +kernel
theorem dX11_checksum_55 : decode cX11_checksum 55 = .ok (.iload 9, 2) := by decide +kernel
theorem dX11_checksum_57 : decode cX11_checksum 57 = .ok (.iaload, 1) := by decide +kernel
theorem dX11_checksum_58 : decode cX11_checksum 58 = .ok (.istore 10, 2) := by decide +kernel
theorem dX11_checksum_60 : decode cX11_checksum 60 = .ok (.ldc2_w 278, 3) := by decide +kernel
theorem dX11_checksum_63 : decode cX11_checksum 63 = .ok (.lload_n 1, 1) := by decide +kernel
theorem dX11_checksum_64 : decode cX11_checksum 64 = .ok (.lmul, 1) := by decide +kernel
theorem dX11_checksum_65 : decode cX11_checksum 65 = .ok (.iload 10, 2) := by decide +kernel
theorem dX11_checksum_67 : decode cX11_checksum 67 = .ok (.i2l, 1) := by decide +kernel
theorem dX11_checksum_68 : decode cX11_checksum 68 = .ok (.ladd, 1) := by decide +kernel
theorem dX11_checksum_69 : decode cX11_checksum 69 = .ok (.lstore_n 1, 1) := by decide +kernel
theorem dX11_checksum_70 : decode cX11_checksum 70 = .ok (.iinc 9 1, 3) := by decide +kernel
theorem dX11_checksum_73 : decode cX11_checksum 73 = .ok (.goto (-27), 3) := by decide +kernel
theorem dX11_checksum_76 : decode cX11_checksum 76 = .ok (.iinc 5 1, 3) := by decide +kernel
theorem dX11_checksum_79 : decode cX11_checksum 79 = .ok (.goto (-58), 3) := by decide +kernel
theorem dX11_checksum_82 : decode cX11_checksum 82 = .ok (.aload_n 0, 1) := by decide +kernel
theorem dX11_checksum_83 : decode cX11_checksum 83 = .ok (.getfield 37, 3) := by decide +kernel
theorem dX11_checksum_86 : decode cX11_checksum 86 = .ok (.invokevirtual 216, 3) := by decide +kernel
theorem dX11_checksum_89 : decode cX11_checksum 89 = .ok (.astore_n 3, 1) := by decide +kernel
theorem dX11_checksum_90 : decode cX11_checksum 90 = .ok (.aload_n 3, 1) := by decide +kernel
theorem dX11_checksum_91 : decode cX11_checksum 91 = .ok (.invokeinterface 220 1, 5) := by decide +kernel
theorem dX11_checksum_96 : decode cX11_checksum 96 = .ok (.ifCond .eq 43, 3) := by decide +kernel
theorem dX11_checksum_99 : decode cX11_checksum 99 = .ok (.aload_n 3, 1) := by decide +kernel
theorem dX11_checksum_100 : decode cX11_checksum 100 = .ok (.invokeinterface 225 1, 5) := by decide +kernel
theorem dX11_checksum_105 : decode cX11_checksum 105 = .ok (.checkcast 232, 3) := by decide +kernel
theorem dX11_checksum_108 : decode cX11_checksum 108 = .ok (.astore 4, 2) := by decide +kernel
theorem dX11_checksum_110 : decode cX11_checksum 110 = .ok (.ldc2_w 278, 3) := by decide +kernel
theorem dX11_checksum_113 : decode cX11_checksum 113 = .ok (.lload_n 1, 1) := by decide +kernel
theorem dX11_checksum_114 : decode cX11_checksum 114 = .ok (.lmul, 1) := by decide +kernel
theorem dX11_checksum_115 : decode cX11_checksum 115 = .ok (.aload 4, 2) := by decide +kernel
theorem dX11_checksum_117 : decode cX11_checksum 117 = .ok (.getfield 246, 3) := by decide +kernel
theorem dX11_checksum_120 : decode cX11_checksum 120 = .ok (.i2l, 1) := by decide +kernel
theorem dX11_checksum_121 : decode cX11_checksum 121 = .ok (.ladd, 1) := by decide +kernel
theorem dX11_checksum_122 : decode cX11_checksum 122 = .ok (.lstore_n 1, 1) := by decide +kernel
theorem dX11_checksum_123 : decode cX11_checksum 123 = .ok (.ldc2_w 278, 3) := by decide +kernel
theorem dX11_checksum_126 : decode cX11_checksum 126 = .ok (.lload_n 1, 1) := by decide +kernel
theorem dX11_checksum_127 : decode cX11_checksum 127 = .ok (.lmul, 1) := by decide +kernel
theorem dX11_checksum_128 : decode cX11_checksum 128 = .ok (.aload 4, 2) := by decide +kernel
theorem dX11_checksum_130 : decode cX11_checksum 130 = .ok (.getfield 253, 3) := by decide +kernel
theorem dX11_checksum_133 : decode cX11_checksum 133 = .ok (.i2l, 1) := by decide +kernel
theorem dX11_checksum_134 : decode cX11_checksum 134 = .ok (.ladd, 1) := by decide +kernel
theorem dX11_checksum_135 : decode cX11_checksum 135 = .ok (.lstore_n 1, 1) := by decide +kernel
theorem dX11_checksum_136 : decode cX11_checksum 136 = .ok (.goto (-46), 3) := by decide +kernel
theorem dX11_checksum_139 : decode cX11_checksum 139 = .ok (.lload_n 1, 1) := by decide +kernel
theorem dX11_checksum_140 : decode cX11_checksum 140 = .ok (.lreturn, 1) := by decide +kernel
theorem dX11_noSamples_0 : decode cX11_noSamples 0 = .ok (.aload_n 0, 1) := by decide +kernel
theorem dX11_noSamples_1 : decode cX11_noSamples 1 = .ok (.iload_n 1, 1) := by decide +kernel
theorem dX11_noSamples_2 : decode cX11_noSamples 2 = .ok (.iload_n 2, 1) := by decide +kernel
theorem dX11_noSamples_3 : decode cX11_noSamples 3 = .ok (.invokevirtual 163, 3) := by decide +kernel
theorem dX11_noSamples_6 : decode cX11_noSamples 6 = .ok (.ifCond .ne 22, 3) := by decide +kernel
theorem dX11_noSamples_9 : decode cX11_noSamples 9 = .ok (.aload_n 0, 1) := by decide +kernel
theorem dX11_noSamples_10 : decode cX11_noSamples 10 = .ok (.aload_n 0, 1) := by decide +kernel
theorem dX11_noSamples_11 : decode cX11_noSamples 11 = .ok (.getfield 27, 3) := by decide +kernel
theorem dX11_noSamples_14 : decode cX11_noSamples 14 = .ok (.iload_n 1, 1) := by decide +kernel
theorem dX11_noSamples_15 : decode cX11_noSamples 15 = .ok (.aaload, 1) := by decide +kernel
theorem dX11_noSamples_16 : decode cX11_noSamples 16 = .ok (.arraylength, 1) := by decide +kernel
theorem dX11_noSamples_17 : decode cX11_noSamples 17 = .ok (.ifCond .ne 7, 3) := by decide +kernel
theorem dX11_noSamples_20 : decode cX11_noSamples 20 = .ok (.iconst 2, 1) := by decide +kernel
theorem dX11_noSamples_21 : decode cX11_noSamples 21 = .ok (.goto 4, 3) := by decide +kernel
theorem dX11_noSamples_24 : decode cX11_noSamples 24 = .ok (.iconst 0, 1) := by decide +kernel
theorem dX11_noSamples_25 : decode cX11_noSamples 25 = .ok (.putfield 43, 3) := by decide +kernel
theorem dX11_noSamples_28 : decode cX11_noSamples 28 = .ok (.aload_n 0, 1) := by decide +kernel
theorem dX11_noSamples_29 : decode cX11_noSamples 29 = .ok (.getfield 43, 3) := by decide +kernel
theorem dX11_noSamples_32 : decode cX11_noSamples 32 = .ok (.ifCond .le 7, 3) := by decide +kernel
theorem dX11_noSamples_35 : decode cX11_noSamples 35 = .ok (.iconst 1, 1) := by decide +kernel
theorem dX11_noSamples_36 : decode cX11_noSamples 36 = .ok (.goto 4, 3) := by decide +kernel
theorem dX11_noSamples_39 : decode cX11_noSamples 39 = .ok (.iconst 0, 1) := by decide +kernel
theorem dX11_noSamples_40 : decode cX11_noSamples 40 = .ok (.ireturn, 1) := by decide +kernel
theorem dX11_highShare_0 : decode cX11_highShare 0 = .ok (.aload_n 0, 1) := by decide +kernel
theorem dX11_highShare_1 : decode cX11_highShare 1 = .ok (.iload_n 1, 1) := by decide +kernel
theorem dX11_highShare_2 : decode cX11_highShare 2 = .ok (.iload_n 2, 1) := by decide +kernel
theorem dX11_highShare_3 : decode cX11_highShare 3 = .ok (.invokevirtual 280, 3) := by decide +kernel
theorem dX11_highShare_6 : decode cX11_highShare 6 = .ok (.ifCond .eq 5, 3) := by decide +kernel
theorem dX11_highShare_9 : decode cX11_highShare 9 = .ok (.fconst 0, 1) := by decide +kernel
theorem dX11_highShare_10 : decode cX11_highShare 10 = .ok (.freturn, 1) := by decide +kernel
theorem dX11_highShare_11 : decode cX11_highShare 11 = .ok (.iconst 0, 1) := by decide +kernel
theorem dX11_highShare_12 : decode cX11_highShare 12 = .ok (.istore_n 3, 1) := by decide +kernel
theorem dX11_highShare_13 : decode cX11_highShare 13 = .ok (.iconst 0, 1) := by decide +kernel
theorem dX11_highShare_14 : decode cX11_highShare 14 = .ok (.istore 4, 2) := by decide +kernel
theorem dX11_highShare_16 : decode cX11_highShare 16 = .ok (.iload 4, 2) := by decide +kernel
theorem dX11_highShare_18 : decode cX11_highShare 18 = .ok (.aload_n 0, 1) := by decide +kernel
theorem dX11_highShare_19 : decode cX11_highShare 19 = .ok (.getfield 27, 3) := by decide +kernel
theorem dX11_highShare_22 : decode cX11_highShare 22 = .ok (.iload_n 1, 1) := by decide +kernel
theorem dX11_highShare_23 : decode cX11_highShare 23 = .ok (.aaload, 1) := by decide +kernel
theorem dX11_highShare_24 : decode cX11_highShare 24 = .ok (.arraylength, 1) := by decide +kernel
theorem dX11_highShare_25 : decode cX11_highShare 25 = .ok (.if_icmp .ge 28, 3) := by decide +kernel
theorem dX11_highShare_28 : decode cX11_highShare 28 = .ok (.iload_n 3, 1) := by decide +kernel
theorem dX11_highShare_29 : decode cX11_highShare 29 = .ok (.aload_n 0, 1) := by decide +kernel
theorem dX11_highShare_30 : decode cX11_highShare 30 = .ok (.iload_n 1, 1) := by decide +kernel
theorem dX11_highShare_31 : decode cX11_highShare 31 = .ok (.iload_n 2, 1) := by decide +kernel
theorem dX11_highShare_32 : decode cX11_highShare 32 = .ok (.iload 4, 2) := by decide +kernel
theorem dX11_highShare_34 : decode cX11_highShare 34 = .ok (.invokevirtual 133, 3) := by decide +kernel
theorem dX11_highShare_37 : decode cX11_highShare 37 = .ok (.ifCond .eq 7, 3) := by decide +kernel
theorem dX11_highShare_40 : decode cX11_highShare 40 = .ok (.iconst 1, 1) := by decide +kernel
theorem dX11_highShare_41 : decode cX11_highShare 41 = .ok (.goto 4, 3) := by decide +kernel
theorem dX11_highShare_44 : decode cX11_highShare 44 = .ok (.iconst 0, 1) := by decide +kernel
theorem dX11_highShare_45 : decode cX11_highShare 45 = .ok (.iadd, 1) := by decide +kernel
theorem dX11_highShare_46 : decode cX11_highShare 46 = .ok (.istore_n 3, 1) := by decide +kernel
theorem dX11_highShare_47 : decode cX11_highShare 47 = .ok (.iinc 4 1, 3) := by decide +kernel
theorem dX11_highShare_50 : decode cX11_highShare 50 = .ok (.goto (-34), 3) := by decide +kernel
theorem dX11_highShare_53 : decode cX11_highShare 53 = .ok (.iload_n 3, 1) := by decide +kernel
theorem dX11_highShare_54 : decode cX11_highShare 54 = .ok (.i2f, 1) := by decide +kernel
theorem dX11_highShare_55 : decode cX11_highShare 55 = .ok (.aload_n 0, 1) := by decide +kernel
theorem dX11_highShare_56 : decode cX11_highShare 56 = .ok (.getfield 27, 3) := by decide +kernel
theorem dX11_highShare_59 : decode cX11_highShare 59 = .ok (.iload_n 1, 1) := by decide +kernel
theorem dX11_highShare_60 : decode cX11_highShare 60 = .ok (.aaload, 1) := by decide +kernel
theorem dX11_highShare_61 : decode cX11_highShare 61 = .ok (.arraylength, 1) := by decide +kernel
theorem dX11_highShare_62 : decode cX11_highShare 62 = .ok (.i2f, 1) := by decide +kernel
theorem dX11_highShare_63 : decode cX11_highShare 63 = .ok (.fdiv, 1) := by decide +kernel
theorem dX11_highShare_64 : decode cX11_highShare 64 = .ok (.freturn, 1) := by decide +kernel
theorem dX11_meanRun_0 : decode cX11_meanRun 0 = .ok (.aload_n 0, 1) := by decide +kernel
theorem dX11_meanRun_1 : decode cX11_meanRun 1 = .ok (.iload_n 1, 1) := by decide +kernel
theorem dX11_meanRun_2 : decode cX11_meanRun 2 = .ok (.iload_n 2, 1) := by decide +kernel
theorem dX11_meanRun_3 : decode cX11_meanRun 3 = .ok (.invokevirtual 280, 3) := by decide +kernel
theorem dX11_meanRun_6 : decode cX11_meanRun 6 = .ok (.ifCond .eq 7, 3) := by decide +kernel
theorem dX11_meanRun_9 : decode cX11_meanRun 9 = .ok (.dconst 0, 1) := by decide +kernel
theorem dX11_meanRun_10 : decode cX11_meanRun 10 = .ok (.goto 22, 3) := by decide +kernel
theorem dX11_meanRun_13 : decode cX11_meanRun 13 = .ok (.aload_n 0, 1) := by decide +kernel
theorem dX11_meanRun_14 : decode cX11_meanRun 14 = .ok (.getfield 27, 3) := by decide +kernel
theorem dX11_meanRun_17 : decode cX11_meanRun 17 = .ok (.iload_n 1, 1) := by decide +kernel
theorem dX11_meanRun_18 : decode cX11_meanRun 18 = .ok (.aaload, 1) := by decide +kernel
theorem dX11_meanRun_19 : decode cX11_meanRun 19 = .ok (.arraylength, 1) := by decide +kernel
theorem dX11_meanRun_20 : decode cX11_meanRun 20 = .ok (.i2d, 1) := by decide +kernel
theorem dX11_meanRun_21 : decode cX11_meanRun 21 = .ok (.aload_n 0, 1) := by decide +kernel
theorem dX11_meanRun_22 : decode cX11_meanRun 22 = .ok (.iload_n 1, 1) := by decide +kernel
theorem dX11_meanRun_23 : decode cX11_meanRun 23 = .ok (.iload_n 2, 1) := by decide +kernel
theorem dX11_meanRun_24 : decode cX11_meanRun 24 = .ok (.invokevirtual 166, 3) := by decide +kernel
theorem dX11_meanRun_27 : decode cX11_meanRun 27 = .ok (.invokevirtual 148, 3) := by decide +kernel
theorem dX11_meanRun_30 : decode cX11_meanRun 30 = .ok (.i2d, 1) := by decide +kernel
theorem dX11_meanRun_31 : decode cX11_meanRun 31 = .ok (.ddiv, 1) := by decide +kernel
theorem dX11_meanRun_32 : decode cX11_meanRun 32 = .ok (.dreturn, 1) := by decide +kernel
theorem dX11_isSound_0 : decode cX11_isSound 0 = .ok (.aload_n 0, 1) := by decide +kernel
theorem dX11_isSound_1 : decode cX11_isSound 1 = .ok (.iconst 0, 1) := by decide +kernel
theorem dX11_isSound_2 : decode cX11_isSound 2 = .ok (.putfield 43, 3) := by decide +kernel
theorem dX11_isSound_5 : decode cX11_isSound 5 = .ok (.iconst 1, 1) := by decide +kernel
theorem dX11_isSound_6 : decode cX11_isSound 6 = .ok (.ireturn, 1) := by decide +kernel
