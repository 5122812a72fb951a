theorem dX7_init_0 : decode cX7_init 0 = .ok (.aload_n 0, 1) := by decide +kernel
theorem dX7_init_1 : decode cX7_init 1 = .ok (.invokespecial 1, 3) := by decide +kernel
theorem dX7_init_4 : decode cX7_init 4 = .ok (.aload_n 0, 1) := by decide +kernel
theorem dX7_init_5 : decode cX7_init 5 = .ok (.iconst 4, 1) := by decide +kernel
theorem dX7_init_6 : decode cX7_init 6 = .ok (.anewarray 9, 3) := by decide +kernel
theorem dX7_init_9 : decode cX7_init 9 = .ok (.putfield 11, 3) := by decide +kernel
theorem dX7_init_12 : decode cX7_init 12 = .ok (.iconst 0, 1) := by decide +kernel
theorem dX7_init_13 : decode cX7_init 13 = .ok (.istore_n 1, 1) := by decide +kernel
theorem dX7_init_14 : decode cX7_init 14 = .ok (.iload_n 1, 1) := by decide +kernel
theorem dX7_init_15 : decode cX7_init 15 = .ok (.aload_n 0, 1) := by decide +kernel
theorem dX7_init_16 : decode cX7_init 16 = .ok (.getfield 11, 3) := by decide +kernel
theorem dX7_init_19 : decode cX7_init 19 = .ok (.arraylength, 1) := by decide +kernel
theorem dX7_init_20 : decode cX7_init 20 = .ok (.if_icmp .ge 22, 3) := by decide +kernel
theorem dX7_init_23 : decode cX7_init 23 = .ok (.aload_n 0, 1) := by decide +kernel
theorem dX7_init_24 : decode cX7_init 24 = .ok (.getfield 11, 3) := by decide +kernel
theorem dX7_init_27 : decode cX7_init 27 = .ok (.iload_n 1, 1) := by decide +kernel
theorem dX7_init_28 : decode cX7_init 28 = .ok (.new 9, 3) := by decide +kernel
theorem dX7_init_31 : decode cX7_init 31 = .ok (.dup, 1) := by decide +kernel
theorem dX7_init_32 : decode cX7_init 32 = .ok (.invokespecial 15, 3) := by decide +kernel
theorem dX7_init_35 : decode cX7_init 35 = .ok (.aastore, 1) := by decide +kernel
theorem dX7_init_36 : decode cX7_init 36 = .ok (.iinc 1 1, 3) := by decide +kernel
theorem dX7_init_39 : decode cX7_init 39 = .ok (.goto (-25), 3) := by decide +kernel
theorem dX7_init_42 : decode cX7_init 42 = .ok (.aload_n 0, 1) := by decide +kernel
theorem dX7_init_43 : decode cX7_init 43 = .ok (.iconst 2, 1) := by decide +kernel
theorem dX7_init_44 : decode cX7_init 44 = .ok (.anewarray 16, 3) := by decide +kernel
theorem dX7_init_47 : decode cX7_init 47 = .ok (.putfield 18, 3) := by decide +kernel
theorem dX7_init_50 : decode cX7_init 50 = .ok (.iconst 0, 1) := by decide +kernel
theorem dX7_init_51 : decode cX7_init 51 = .ok (.istore_n 1, 1) := by decide +kernel
theorem dX7_init_52 : decode cX7_init 52 = .ok (.iload_n 1, 1) := by decide +kernel
theorem dX7_init_53 : decode cX7_init 53 = .ok (.aload_n 0, 1) := by decide +kernel
theorem dX7_init_54 : decode cX7_init 54 = .ok (.getfield 18, 3) := by decide +kernel
theorem dX7_init_57 : decode cX7_init 57 = .ok (.arraylength, 1) := by decide +kernel
theorem dX7_init_58 : decode cX7_init 58 = .ok (.if_icmp .ge 22, 3) := by decide +kernel
theorem dX7_init_61 : decode cX7_init 61 = .ok (.aload_n 0, 1) := by decide +kernel
theorem dX7_init_62 : decode cX7_init 62 = .ok (.getfield 18, 3) := by decide +kernel
theorem dX7_init_65 : decode cX7_init 65 = .ok (.iload_n 1, 1) := by decide +kernel
theorem dX7_init_66 : decode cX7_init 66 = .ok (.new 16, 3) := by decide +kernel
theorem dX7_init_69 : decode cX7_init 69 = .ok (.dup, 1) := by decide +kernel
theorem dX7_init_70 : decode cX7_init 70 = .ok (.invokespecial 22, 3) := by decide +kernel
theorem dX7_init_73 : decode cX7_init 73 = .ok (.aastore, 1) := by decide +kernel
theorem dX7_init_74 : decode cX7_init 74 = .ok (.iinc 1 1, 3) := by decide +kernel
theorem dX7_init_77 : decode cX7_init 77 = .ok (.goto (-25), 3) := by decide +kernel
theorem dX7_init_80 : decode cX7_init 80 = .ok (.aload_n 0, 1) := by decide +kernel
theorem dX7_init_81 : decode cX7_init 81 = .ok (.new 23, 3) := by decide +kernel
theorem dX7_init_84 : decode cX7_init 84 = .ok (.dup, 1) := by decide +kernel
theorem dX7_init_85 : decode cX7_init 85 = .ok (.invokespecial 25, 3) := by decide +kernel
theorem dX7_init_88 : decode cX7_init 88 = .ok (.putfield 26, 3) := by decide +kernel
theorem dX7_init_91 : decode cX7_init 91 = .ok (.aload_n 0, 1) := by decide +kernel
theorem dX7_init_92 : decode cX7_init 92 = .ok (.new 30, 3) := by decide +kernel
theorem dX7_init_95 : decode cX7_init 95 = .ok (.dup, 1) := by decide +kernel
theorem dX7_init_96 : decode cX7_init 96 = .ok (.invokespecial 32, 3) := by decide +kernel
theorem dX7_init_99 : decode cX7_init 99 = .ok (.putfield 33, 3) := by decide +kernel
theorem dX7_init_102 : decode cX7_init 102 = .ok (.aload_n 0, 1) := by decide +kernel
theorem dX7_init_103 : decode cX7_init 103 = .ok (.new 37, 3) := by decide +kernel
theorem dX7_init_106 : decode cX7_init 106 = .ok (.dup, 1) := by decide +kernel
theorem dX7_init_107 : decode cX7_init 107 = .ok (.invokespecial 39, 3) := by decide +kernel
theorem dX7_init_110 : decode cX7_init 110 = .ok (.putfield 40, 3) := by decide +kernel
theorem dX7_init_113 : decode cX7_init 113 = .ok (.aload_n 0, 1) := by decide +kernel
theorem dX7_init_114 : decode cX7_init 114 = .ok (.iconst 1, 1) := by decide +kernel
theorem dX7_init_115 : decode cX7_init 115 = .ok (.putfield 44, 3) := by decide +kernel
theorem dX7_init_118 : decode cX7_init 118 = .ok (.aload_n 0, 1) := by decide +kernel
theorem dX7_init_119 : decode cX7_init 119 = .ok (.iconst 1, 1) := by decide +kernel
theorem dX7_init_120 : decode cX7_init 120 = .ok (.putfield 48, 3) := by decide +kernel
theorem dX7_init_123 : decode cX7_init 123 = .ok (.return_, 1) := by decide +kernel
theorem dX7_idle_0 : decode cX7_idle 0 = .ok (.iload_n 1, 1) := by decide +kernel
theorem dX7_idle_1 : decode cX7_idle 1 = .ok (.invokestatic 51, 3) := by decide +kernel
theorem dX7_idle_4 : decode cX7_idle 4 = .ok (.aload_n 0, 1) := by decide +kernel
theorem dX7_idle_5 : decode cX7_idle 5 = .ok (.getfield 11, 3) := by decide +kernel
theorem dX7_idle_8 : decode cX7_idle 8 = .ok (.iload_n 1, 1) := by decide +kernel
theorem dX7_idle_9 : decode cX7_idle 9 = .ok (.aaload, 1) := by decide +kernel
theorem dX7_idle_10 : decode cX7_idle 10 = .ok (.getfield 55, 3) := by decide +kernel
theorem dX7_idle_13 : decode cX7_idle 13 = .ok (.istore_n 3, 1) := by decide +kernel
theorem dX7_idle_14 : decode cX7_idle 14 = .ok (.aload_n 0, 1) := by decide +kernel
theorem dX7_idle_15 : decode cX7_idle 15 = .ok (.getfield 11, 3) := by decide +kernel
theorem dX7_idle_18 : decode cX7_idle 18 = .ok (.iload_n 1, 1) := by decide +kernel
theorem dX7_idle_19 : decode cX7_idle 19 = .ok (.aaload, 1) := by decide +kernel
theorem dX7_idle_20 : decode cX7_idle 20 = .ok (.iload_n 2, 1) := by decide +kernel
theorem dX7_idle_21 : decode cX7_idle 21 = .ok (.putfield 55, 3) := by decide +kernel
theorem dX7_idle_24 : decode cX7_idle 24 = .ok (.iload_n 3, 1) := by decide +kernel
theorem dX7_idle_25 : decode cX7_idle 25 = .ok (.ireturn, 1) := by decide +kernel
theorem dX7_flip_0 : decode cX7_flip 0 = .ok (.iload_n 1, 1) := by decide +kernel
theorem dX7_flip_1 : decode cX7_flip 1 = .ok (.invokestatic 51, 3) := by decide +kernel
theorem dX7_flip_4 : decode cX7_flip 4 = .ok (.iload_n 2, 1) := by decide +kernel
theorem dX7_flip_5 : decode cX7_flip 5 = .ok (.iconst 0, 1) := by decide +kernel
theorem dX7_flip_6 : decode cX7_flip 6 = .ok (.sipush 9999, 3) := by decide +kernel
theorem dX7_flip_9 : decode cX7_flip 9 = .ok (.invokestatic 58, 3) := by decide +kernel
theorem dX7_flip_12 : decode cX7_flip 12 = .ok (.aload_n 0, 1) := by decide +kernel
theorem dX7_flip_13 : decode cX7_flip 13 = .ok (.getfield 11, 3) := by decide +kernel
theorem dX7_flip_16 : decode cX7_flip 16 = .ok (.iload_n 1, 1) := by decide +kernel
theorem dX7_flip_17 : decode cX7_flip 17 = .ok (.aaload, 1) := by decide +kernel
theorem dX7_flip_18 : decode cX7_flip 18 = .ok (.astore_n 3, 1) := by decide +kernel
theorem dX7_flip_19 : decode cX7_flip 19 = .ok (.aload_n 3, 1) := by decide +kernel
theorem dX7_flip_20 : decode cX7_flip 20 = .ok (.iconst 0, 1) := by decide +kernel
theorem dX7_flip_21 : decode cX7_flip 21 = .ok (.invokevirtual 62, 3) := by decide +kernel
theorem dX7_flip_24 : decode cX7_flip 24 = .ok (.aload_n 3, 1) := by decide +kernel
theorem dX7_flip_25 : decode cX7_flip 25 = .ok (.iload_n 2, 1) := by decide +kernel
theorem dX7_flip_26 : decode cX7_flip 26 = .ok (.invokevirtual 66, 3) := by decide +kernel
theorem dX7_flip_29 : decode cX7_flip 29 = .ok (.aload_n 3, 1) := by decide +kernel
theorem dX7_flip_30 : decode cX7_flip 30 = .ok (.invokevirtual 69, 3) := by decide +kernel
theorem dX7_flip_33 : decode cX7_flip 33 = .ok (.invokestatic 73, 3) := by decide +kernel
theorem dX7_flip_36 : decode cX7_flip 36 = .ok (.aload_n 3, 1) := by decide +kernel
theorem dX7_flip_37 : decode cX7_flip 37 = .ok (.invokevirtual 76, 3) := by decide +kernel
theorem dX7_flip_40 : decode cX7_flip 40 = .ok (.aload_n 3, 1) := by decide +kernel
theorem dX7_flip_41 : decode cX7_flip 41 = .ok (.getfield 79, 3) := by decide +kernel
theorem dX7_flip_44 : decode cX7_flip 44 = .ok (.ireturn, 1) := by decide +kernel
theorem dX7_level_0 : decode cX7_level 0 = .ok (.iload_n 1, 1) := by decide +kernel
theorem dX7_level_1 : decode cX7_level 1 = .ok (.invokestatic 51, 3) := by decide +kernel
theorem dX7_level_4 : decode cX7_level 4 = .ok (.iload_n 2, 1) := by decide +kernel
theorem dX7_level_5 : decode cX7_level 5 = .ok (.iconst 0, 1) := by decide +kernel
theorem dX7_level_6 : decode cX7_level 6 = .ok (.sipush 9999, 3) := by decide +kernel
theorem dX7_level_9 : decode cX7_level 9 = .ok (.invokestatic 58, 3) := by decide +kernel
theorem dX7_level_12 : decode cX7_level 12 = .ok (.aload_n 0, 1) := by decide +kernel
theorem dX7_level_13 : decode cX7_level 13 = .ok (.getfield 11, 3) := by decide +kernel
theorem dX7_level_16 : decode cX7_level 16 = .ok (.iload_n 1, 1) := by decide +kernel
theorem dX7_level_17 : decode cX7_level 17 = .ok (.aaload, 1) := by decide +kernel
theorem dX7_level_18 : decode cX7_level 18 = .ok (.iload_n 2, 1) := by decide +kernel
theorem dX7_level_19 : decode cX7_level 19 = .ok (.invokevirtual 83, 3) := by decide +kernel
theorem dX7_level_22 : decode cX7_level 22 = .ok (.ireturn, 1) := by decide +kernel
theorem dX7_glitch_0 : decode cX7_glitch 0 = .ok (.iload_n 1, 1) := by decide +kernel
theorem dX7_glitch_1 : decode cX7_glitch 1 = .ok (.invokestatic 51, 3) := by decide +kernel
theorem dX7_glitch_4 : decode cX7_glitch 4 = .ok (.iload_n 2, 1) := by decide +kernel
theorem dX7_glitch_5 : decode cX7_glitch 5 = .ok (.iconst 0, 1) := by decide +kernel
theorem dX7_glitch_6 : decode cX7_glitch 6 = .ok (.sipush 9999, 3) := by decide +kernel
theorem dX7_glitch_9 : decode cX7_glitch 9 = .ok (.invokestatic 58, 3) := by decide +kernel
theorem dX7_glitch_12 : decode cX7_glitch 12 = .ok (.iload_n 3, 1) := by decide +kernel
theorem dX7_glitch_13 : decode cX7_glitch 13 = .ok (.iconst 1, 1) := by decide +kernel
theorem dX7_glitch_14 : decode cX7_glitch 14 = .ok (.bipush 99, 2) := by decide +kernel
theorem dX7_glitch_16 : decode cX7_glitch 16 = .ok (.invokestatic 58, 3) := by decide +kernel
theorem dX7_glitch_19 : decode cX7_glitch 19 = .ok (.iload_n 2, 1) := by decide +kernel
theorem dX7_glitch_20 : decode cX7_glitch 20 = .ok (.iload_n 3, 1) := by decide +kernel
theorem dX7_glitch_21 : decode cX7_glitch 21 = .ok (.iadd, 1) := by decide +kernel
theorem dX7_glitch_22 : decode cX7_glitch 22 = .ok (.iconst 0, 1) := by decide +kernel
theorem dX7_glitch_23 : decode cX7_glitch 23 = .ok (.sipush 9999, 3) := by decide +kernel
theorem dX7_glitch_26 : decode cX7_glitch 26 = .ok (.invokestatic 58, 3) := by decide +kernel
theorem dX7_glitch_29 : decode cX7_glitch 29 = .ok (.aload_n 0, 1) := by decide +kernel
theorem dX7_glitch_30 : decode cX7_glitch 30 = .ok (.getfield 11, 3) := by decide +kernel
theorem dX7_glitch_33 : decode cX7_glitch 33 = .ok (.iload_n 1, 1) := by decide +kernel
theorem dX7_glitch_34 : decode cX7_glitch 34 = .ok (.aaload, 1) := by decide +kernel
theorem dX7_glitch_35 : decode cX7_glitch 35 = .ok (.astore 4, 2) := by decide +kernel
theorem dX7_glitch_37 : decode cX7_glitch 37 = .ok (.aload 4, 2) := by decide +kernel
theorem dX7_glitch_39 : decode cX7_glitch 39 = .ok (.iconst 0, 1) := by decide +kernel
theorem dX7_glitch_40 : decode cX7_glitch 40 = .ok (.invokevirtual 62, 3) := by decide +kernel
theorem dX7_glitch_43 : decode cX7_glitch 43 = .ok (.aload 4, 2) := by decide +kernel
theorem dX7_glitch_45 : decode cX7_glitch 45 = .ok (.iload_n 2, 1) := by decide +kernel
theorem dX7_glitch_46 : decode cX7_glitch 46 = .ok (.invokevirtual 66, 3) := by decide +kernel
theorem dX7_glitch_49 : decode cX7_glitch 49 = .ok (.aload 4, 2) := by decide +kernel
theorem dX7_glitch_51 : decode cX7_glitch 51 = .ok (.iload_n 2, 1) := by decide +kernel
theorem dX7_glitch_52 : decode cX7_glitch 52 = .ok (.iload_n 3, 1) := by decide +kernel
theorem dX7_glitch_53 : decode cX7_glitch 53 = .ok (.iadd, 1) := by decide +kernel
theorem dX7_glitch_54 : decode cX7_glitch 54 = .ok (.invokevirtual 66, 3) := by decide +kernel
theorem dX7_glitch_57 : decode cX7_glitch 57 = .ok (.aload 4, 2) := by decide +kernel
theorem dX7_glitch_59 : decode cX7_glitch 59 = .ok (.invokevirtual 69, 3) := by decide +kernel
theorem dX7_glitch_62 : decode cX7_glitch 62 = .ok (.invokestatic 73, 3) := by decide +kernel
theorem dX7_glitch_65 : decode cX7_glitch 65 = .ok (.aload 4, 2) := by decide +kernel
theorem dX7_glitch_67 : decode cX7_glitch 67 = .ok (.invokevirtual 76, 3) := by decide +kernel
theorem dX7_glitch_70 : decode cX7_glitch 70 = .ok (.aload 4, 2) := by decide +kernel
theorem dX7_glitch_72 : decode cX7_glitch 72 = .ok (.getfield 79, 3) := by decide +kernel
theorem dX7_glitch_75 : decode cX7_glitch 75 = .ok (.ireturn, 1) := by decide +kernel
theorem dX7_drift_0 : decode cX7_drift 0 = .ok (.iload_n 1, 1) := by decide +kernel
theorem dX7_drift_1 : decode cX7_drift 1 = .ok (.bipush (-50), 2) := by decide +kernel
theorem dX7_drift_3 : decode cX7_drift 3 = .ok (.bipush 50, 2) := by decide +kernel
theorem dX7_drift_5 : decode cX7_drift 5 = .ok (.invokestatic 58, 3) := by decide +kernel
theorem dX7_drift_8 : decode cX7_drift 8 = .ok (.aload_n 0, 1) := by decide +kernel
theorem dX7_drift_9 : decode cX7_drift 9 = .ok (.getfield 87, 3) := by decide +kernel
theorem dX7_drift_12 : decode cX7_drift 12 = .ok (.istore_n 2, 1) := by decide +kernel
theorem dX7_drift_13 : decode cX7_drift 13 = .ok (.aload_n 0, 1) := by decide +kernel
theorem dX7_drift_14 : decode cX7_drift 14 = .ok (.iload_n 1, 1) := by decide +kernel
theorem dX7_drift_15 : decode cX7_drift 15 = .ok (.putfield 87, 3) := by decide +kernel
theorem dX7_drift_18 : decode cX7_drift 18 = .ok (.iload_n 2, 1) := by decide +kernel
theorem dX7_drift_19 : decode cX7_drift 19 = .ok (.ireturn, 1) := by decide +kernel
theorem dX7_serial_0 : decode cX7_serial 0 = .ok (.iload_n 1, 1) := by decide +kernel
theorem dX7_serial_1 : decode cX7_serial 1 = .ok (.invokestatic 51, 3) := by decide +kernel
theorem dX7_serial_4 : decode cX7_serial 4 = .ok (.iload_n 2, 1) := by decide +kernel
theorem dX7_serial_5 : decode cX7_serial 5 = .ok (.iconst 0, 1) := by decide +kernel
theorem dX7_serial_6 : decode cX7_serial 6 = .ok (.sipush 255, 3) := by decide +kernel
theorem dX7_serial_9 : decode cX7_serial 9 = .ok (.invokestatic 58, 3) := by decide +kernel
theorem dX7_serial_12 : decode cX7_serial 12 = .ok (.iload_n 3, 1) := by decide +kernel
theorem dX7_serial_13 : decode cX7_serial 13 = .ok (.iconst 0, 1) := by decide +kernel
theorem dX7_serial_14 : decode cX7_serial 14 = .ok (.sipush 9999, 3) := by decide +kernel
theorem dX7_serial_17 : decode cX7_serial 17 = .ok (.invokestatic 58, 3) := by decide +kernel
theorem dX7_serial_20 : decode cX7_serial 20 = .ok (.iload 4, 2) := by decide +kernel
theorem dX7_serial_22 : decode cX7_serial 22 = .ok (.iconst 2, 1) := by decide +kernel
theorem dX7_serial_23 : decode cX7_serial 23 = .ok (.bipush 50, 2) := by decide +kernel
theorem dX7_serial_25 : decode cX7_serial 25 = .ok (.invokestatic 58, 3) := by decide +kernel
theorem dX7_serial_28 : decode cX7_serial 28 = .ok (.iload 5, 2) := by decide +kernel
theorem dX7_serial_30 : decode cX7_serial 30 = .ok (.invokestatic 90, 3) := by decide +kernel
theorem dX7_serial_33 : decode cX7_serial 33 = .ok (.aload_n 0, 1) := by decide +kernel
theorem dX7_serial_34 : decode cX7_serial 34 = .ok (.getfield 11, 3) := by decide +kernel
theorem dX7_serial_37 : decode cX7_serial 37 = .ok (.iload_n 1, 1) := by decide +kernel
theorem dX7_serial_38 : decode cX7_serial 38 = .ok (.aaload, 1) := by decide +kernel
theorem dX7_serial_39 : decode cX7_serial 39 = .ok (.astore 6, 2) := by decide +kernel
theorem dX7_serial_41 : decode cX7_serial 41 = .ok (.iload 5, 2) := by decide +kernel
theorem dX7_serial_43 : decode cX7_serial 43 = .ok (.invokestatic 94, 3) := by decide +kernel
theorem dX7_serial_46 : decode cX7_serial 46 = .ok (.istore 7, 2) := by decide +kernel
theorem dX7_serial_48 : decode cX7_serial 48 = .ok (.iload_n 2, 1) := by decide +kernel
theorem dX7_serial_49 : decode cX7_serial 49 = .ok (.iload 5, 2) := by decide +kernel
theorem dX7_serial_51 : decode cX7_serial 51 = .ok (.invokestatic 98, 3) := by decide +kernel
theorem dX7_serial_54 : decode cX7_serial 54 = .ok (.istore 8, 2) := by decide +kernel
theorem dX7_serial_56 : decode cX7_serial 56 = .ok (.aload 6, 2) := by decide +kernel
theorem dX7_serial_58 : decode cX7_serial 58 = .ok (.iconst 1, 1) := by decide +kernel
theorem dX7_serial_59 : decode cX7_serial 59 = .ok (.invokevirtual 62, 3) := by decide +kernel
theorem dX7_serial_62 : decode cX7_serial 62 = .ok (.iconst 0, 1) := by decide +kernel
theorem dX7_serial_63 : decode cX7_serial 63 = .ok (.istore 9, 2) := by decide +kernel
theorem dX7_serial_65 : decode cX7_serial 65 = .ok (.iload 9, 2) := by decide +kernel
theorem dX7_serial_67 : decode cX7_serial 67 = .ok (.iload 7, 2) := by decide +kernel
theorem dX7_serial_69 : decode cX7_serial 69 = .ok (.if_icmp .ge 31, 3) := by decide +kernel
theorem dX7_serial_72 : decode cX7_serial 72 = .ok (.aload 6, 2) := by decide +kernel
theorem dX7_serial_74 : decode cX7_serial 74 = .ok (.iload 8, 2) := by decide +kernel
theorem dX7_serial_76 : decode cX7_serial 76 = .ok (.iload 9, 2) := by decide +kernel
theorem dX7_serial_78 : decode cX7_serial 78 = .ok (.invokestatic 102, 3) := by decide +kernel
theorem dX7_serial_81 : decode cX7_serial 81 = .ok (.aload_n 0, 1) := by decide +kernel
theorem dX7_serial_82 : decode cX7_serial 82 = .ok (.iload_n 3, 1) := by decide +kernel
theorem dX7_serial_83 : decode cX7_serial 83 = .ok (.iload 9, 2) := by decide +kernel
theorem dX7_serial_85 : decode cX7_serial 85 = .ok (.iload 4, 2) := by decide +kernel
theorem dX7_serial_87 : decode cX7_serial 87 = .ok (.imul, 1) := by decide +kernel
theorem dX7_serial_88 : decode cX7_serial 88 = .ok (.invokevirtual 106, 3) := by decide +kernel
theorem dX7_serial_91 : decode cX7_serial 91 = .ok (.invokevirtual 110, 3) := by decide +kernel
theorem dX7_serial_94 : decode cX7_serial 94 = .ok (.iinc 9 1, 3) := by decide +kernel
theorem dX7_serial_97 : decode cX7_serial 97 = .ok (.goto (-32), 3) := by decide +kernel
theorem dX7_serial_100 : decode cX7_serial 100 = .ok (.aload 6, 2) := by decide +kernel
theorem dX7_serial_102 : decode cX7_serial 102 = .ok (.invokevirtual 69, 3) := by decide +kernel
theorem dX7_serial_105 : decode cX7_serial 105 = .ok (.invokestatic 73, 3) := by decide +kernel
theorem dX7_serial_108 : decode cX7_serial 108 = .ok (.aload 6, 2) := by decide +kernel
theorem dX7_serial_110 : decode cX7_serial 110 = .ok (.invokevirtual 76, 3) := by decide +kernel
theorem dX7_serial_113 : decode cX7_serial 113 = .ok (.aload_n 0, 1) := by decide +kernel
theorem dX7_serial_114 : decode cX7_serial 114 = .ok (.iload_n 3, 1) := by decide +kernel
theorem dX7_serial_115 : decode cX7_serial 115 = .ok (.iload 7, 2) := by decide +kernel
theorem dX7_serial_117 : decode cX7_serial 117 = .ok (.iload 4, 2) := by decide +kernel
theorem dX7_serial_119 : decode cX7_serial 119 = .ok (.imul, 1) := by decide +kernel
theorem dX7_serial_120 : decode cX7_serial 120 = .ok (.invokevirtual 106, 3) := by decide +kernel
theorem dX7_serial_123 : decode cX7_serial 123 = .ok (.ireturn, 1) := by decide +kernel
theorem dX7_answers_0 : decode cX7_answers 0 = .ok (.aload_n 0, 1) := by decide +kernel
theorem dX7_answers_1 : decode cX7_answers 1 = .ok (.getfield 44, 3) := by decide +kernel
theorem dX7_answers_4 : decode cX7_answers 4 = .ok (.ifCond .eq 14, 3) := by decide +kernel
theorem dX7_answers_7 : decode cX7_answers 7 = .ok (.aload_n 0, 1) := by decide +kernel
theorem dX7_answers_8 : decode cX7_answers 8 = .ok (.getfield 48, 3) := by decide +kernel
theorem dX7_answers_11 : decode cX7_answers 11 = .ok (.ifCond .eq 7, 3) := by decide +kernel
theorem dX7_answers_14 : decode cX7_answers 14 = .ok (.iconst 1, 1) := by decide +kernel
theorem dX7_answers_15 : decode cX7_answers 15 = .ok (.goto 4, 3) := by decide +kernel
theorem dX7_answers_18 : decode cX7_answers 18 = .ok (.iconst 0, 1) := by decide +kernel
theorem dX7_answers_19 : decode cX7_answers 19 = .ok (.istore_n 3, 1) := by decide +kernel
theorem dX7_answers_20 : decode cX7_answers 20 = .ok (.aload_n 0, 1) := by decide +kernel
theorem dX7_answers_21 : decode cX7_answers 21 = .ok (.iload_n 1, 1) := by decide +kernel
theorem dX7_answers_22 : decode cX7_answers 22 = .ok (.putfield 44, 3) := by decide +kernel
theorem dX7_answers_25 : decode cX7_answers 25 = .ok (.aload_n 0, 1) := by decide +kernel
theorem dX7_answers_26 : decode cX7_answers 26 = .ok (.iload_n 2, 1) := by decide +kernel
theorem dX7_answers_27 : decode cX7_answers 27 = .ok (.putfield 48, 3) := by decide +kernel
theorem dX7_answers_30 : decode cX7_answers 30 = .ok (.iload_n 3, 1) := by decide +kernel
theorem dX7_answers_31 : decode cX7_answers 31 = .ok (.ireturn, 1) := by decide +kernel
theorem dX7_twoWires_0 : decode cX7_twoWires 0 = .ok (.iload_n 1, 1) := by decide +kernel
theorem dX7_twoWires_1 : decode cX7_twoWires 1 = .ok (.invokestatic 51, 3) := by decide +kernel
theorem dX7_twoWires_4 : decode cX7_twoWires 4 = .ok (.iload_n 2, 1) := by decide +kernel
theorem dX7_twoWires_5 : decode cX7_twoWires 5 = .ok (.invokestatic 51, 3) := by decide +kernel
theorem dX7_twoWires_8 : decode cX7_twoWires 8 = .ok (.iload_n 3, 1) := by decide +kernel
theorem dX7_twoWires_9 : decode cX7_twoWires 9 = .ok (.iconst 0, 1) := by decide +kernel
theorem dX7_twoWires_10 : decode cX7_twoWires 10 = .ok (.bipush 127, 2) := by decide +kernel
theorem dX7_twoWires_12 : decode cX7_twoWires 12 = .ok (.invokestatic 58, 3) := by decide +kernel
theorem dX7_twoWires_15 : decode cX7_twoWires 15 = .ok (.iload 5, 2) := by decide +kernel
theorem dX7_twoWires_17 : decode cX7_twoWires 17 = .ok (.iconst 0, 1) := by decide +kernel
theorem dX7_twoWires_18 : decode cX7_twoWires 18 = .ok (.bipush 15, 2) := by decide +kernel
theorem dX7_twoWires_20 : decode cX7_twoWires 20 = .ok (.invokestatic 58, 3) := by decide +kernel
theorem dX7_twoWires_23 : decode cX7_twoWires 23 = .ok (.iload 6, 2) := by decide +kernel
theorem dX7_twoWires_25 : decode cX7_twoWires 25 = .ok (.iconst 0, 1) := by decide +kernel
theorem dX7_twoWires_26 : decode cX7_twoWires 26 = .ok (.sipush 255, 3) := by decide +kernel
theorem dX7_twoWires_29 : decode cX7_twoWires 29 = .ok (.invokestatic 58, 3) := by decide +kernel
theorem dX7_twoWires_32 : decode cX7_twoWires 32 = .ok (.iload 7, 2) := by decide +kernel
theorem dX7_twoWires_34 : decode cX7_twoWires 34 = .ok (.iconst 0, 1) := by decide +kernel
theorem dX7_twoWires_35 : decode cX7_twoWires 35 = .ok (.sipush 9999, 3) := by decide +kernel
theorem dX7_twoWires_38 : decode cX7_twoWires 38 = .ok (.invokestatic 58, 3) := by decide +kernel
theorem dX7_twoWires_41 : decode cX7_twoWires 41 = .ok (.iload 8, 2) := by decide +kernel
theorem dX7_twoWires_43 : decode cX7_twoWires 43 = .ok (.iconst 1, 1) := by decide +kernel
theorem dX7_twoWires_44 : decode cX7_twoWires 44 = .ok (.bipush 50, 2) := by decide +kernel
theorem dX7_twoWires_46 : decode cX7_twoWires 46 = .ok (.invokestatic 58, 3) := by decide +kernel
theorem dX7_twoWires_49 : decode cX7_twoWires 49 = .ok (.iload_n 1, 1) := by decide +kernel
theorem dX7_twoWires_50 : decode cX7_twoWires 50 = .ok (.iload_n 2, 1) := by decide +kernel
theorem dX7_twoWires_51 : decode cX7_twoWires 51 = .ok (.invokestatic 114, 3) := by decide +kernel
theorem dX7_twoWires_54 : decode cX7_twoWires 54 = .ok (.iload_n 3, 1) := by decide +kernel
theorem dX7_twoWires_55 : decode cX7_twoWires 55 = .ok (.iconst 2, 1) := by decide +kernel
theorem dX7_twoWires_56 : decode cX7_twoWires 56 = .ok (.imul, 1) := by decide +kernel
theorem dX7_twoWires_57 : decode cX7_twoWires 57 = .ok (.iload 4, 2) := by decide +kernel
theorem dX7_twoWires_59 : decode cX7_twoWires 59 = .ok (.ifCond .eq 7, 3) := by decide +kernel
theorem dX7_twoWires_62 : decode cX7_twoWires 62 = .ok (.iconst 1, 1) := by decide +kernel
theorem dX7_twoWires_63 : decode cX7_twoWires 63 = .ok (.goto 4, 3) := by decide +kernel
theorem dX7_twoWires_66 : decode cX7_twoWires 66 = .ok (.iconst 0, 1) := by decide +kernel
theorem dX7_twoWires_67 : decode cX7_twoWires 67 = .ok (.iadd, 1) := by decide +kernel
theorem dX7_twoWires_68 : decode cX7_twoWires 68 = .ok (.aload_n 0, 1) := by decide +kernel
theorem dX7_twoWires_69 : decode cX7_twoWires 69 = .ok (.getfield 44, 3) := by decide +kernel
theorem dX7_twoWires_72 : decode cX7_twoWires 72 = .ok (.invokestatic 118, 3) := by decide +kernel
theorem dX7_twoWires_75 : decode cX7_twoWires 75 = .ok (.istore 9, 2) := by decide +kernel
theorem dX7_twoWires_77 : decode cX7_twoWires 77 = .ok (.iload 9, 2) := by decide +kernel
theorem dX7_twoWires_79 : decode cX7_twoWires 79 = .ok (.bipush 9, 2) := by decide +kernel
theorem dX7_twoWires_81 : decode cX7_twoWires 81 = .ok (.ishl, 1) := by decide +kernel
theorem dX7_twoWires_82 : decode cX7_twoWires 82 = .ok (.iload 5, 2) := by decide +kernel
theorem dX7_twoWires_84 : decode cX7_twoWires 84 = .ok (.aload_n 0, 1) := by decide +kernel
theorem dX7_twoWires_85 : decode cX7_twoWires 85 = .ok (.getfield 48, 3) := by decide +kernel
theorem dX7_twoWires_88 : decode cX7_twoWires 88 = .ok (.invokestatic 118, 3) := by decide +kernel
theorem dX7_twoWires_91 : decode cX7_twoWires 91 = .ok (.ior, 1) := by decide +kernel
theorem dX7_twoWires_92 : decode cX7_twoWires 92 = .ok (.istore 9, 2) := by decide +kernel
theorem dX7_twoWires_94 : decode cX7_twoWires 94 = .ok (.iload 9, 2) := by decide +kernel
theorem dX7_twoWires_96 : decode cX7_twoWires 96 = .ok (.bipush 9, 2) := by decide +kernel
theorem dX7_twoWires_98 : decode cX7_twoWires 98 = .ok (.ishl, 1) := by decide +kernel
theorem dX7_twoWires_99 : decode cX7_twoWires 99 = .ok (.iload 6, 2) := by decide +kernel
theorem dX7_twoWires_101 : decode cX7_twoWires 101 = .ok (.aload_n 0, 1) := by decide +kernel
theorem dX7_twoWires_102 : decode cX7_twoWires 102 = .ok (.getfield 48, 3) := by decide +kernel
theorem dX7_twoWires_105 : decode cX7_twoWires 105 = .ok (.invokestatic 118, 3) := by decide +kernel
theorem dX7_twoWires_108 : decode cX7_twoWires 108 = .ok (.ior, 1) := by decide +kernel
theorem dX7_twoWires_109 : decode cX7_twoWires 109 = .ok (.istore 9, 2) := by decide +kernel
theorem dX7_twoWires_111 : decode cX7_twoWires 111 = .ok (.aload_n 0, 1) := by decide +kernel
theorem dX7_twoWires_112 : decode cX7_twoWires 112 = .ok (.aload_n 0, 1) := by decide +kernel
theorem dX7_twoWires_113 : decode cX7_twoWires 113 = .ok (.getfield 11, 3) := by decide +kernel
theorem dX7_twoWires_116 : decode cX7_twoWires 116 = .ok (.iload_n 1, 1) := by decide +kernel
theorem dX7_twoWires_117 : decode cX7_twoWires 117 = .ok (.aaload, 1) := by decide +kernel
theorem dX7_twoWires_118 : decode cX7_twoWires 118 = .ok (.aload_n 0, 1) := by decide +kernel
theorem dX7_twoWires_119 : decode cX7_twoWires 119 = .ok (.getfield 11, 3) := by decide +kernel
theorem dX7_twoWires_122 : decode cX7_twoWires 122 = .ok (.iload_n 2, 1) := by decide +kernel
theorem dX7_twoWires_123 : decode cX7_twoWires 123 = .ok (.aaload, 1) := by decide +kernel
theorem dX7_twoWires_124 : decode cX7_twoWires 124 = .ok (.iload 9, 2) := by decide +kernel
theorem dX7_twoWires_126 : decode cX7_twoWires 126 = .ok (.iload 7, 2) := by decide +kernel
theorem dX7_twoWires_128 : decode cX7_twoWires 128 = .ok (.iload 8, 2) := by decide +kernel
theorem dX7_twoWires_130 : decode cX7_twoWires 130 = .ok (.invokevirtual 122, 3) := by decide +kernel
theorem dX7_twoWires_133 : decode cX7_twoWires 133 = .ok (.aload_n 0, 1) := by decide +kernel
theorem dX7_twoWires_134 : decode cX7_twoWires 134 = .ok (.getfield 11, 3) := by decide +kernel
theorem dX7_twoWires_137 : decode cX7_twoWires 137 = .ok (.iload_n 1, 1) := by decide +kernel
theorem dX7_twoWires_138 : decode cX7_twoWires 138 = .ok (.aaload, 1) := by decide +kernel
theorem dX7_twoWires_139 : decode cX7_twoWires 139 = .ok (.invokevirtual 69, 3) := by decide +kernel
theorem dX7_twoWires_142 : decode cX7_twoWires 142 = .ok (.ifCond .eq 19, 3) := by decide +kernel
theorem dX7_twoWires_145 : decode cX7_twoWires 145 = .ok (.aload_n 0, 1) := by decide +kernel
theorem dX7_twoWires_146 : decode cX7_twoWires 146 = .ok (.getfield 11, 3) := by decide +kernel
theorem dX7_twoWires_149 : decode cX7_twoWires 149 = .ok (.iload_n 2, 1) := by decide +kernel
theorem dX7_twoWires_150 : decode cX7_twoWires 150 = .ok (.aaload, 1) := by decide +kernel
theorem dX7_twoWires_151 : decode cX7_twoWires 151 = .ok (.invokevirtual 69, 3) := by decide +kernel
theorem dX7_twoWires_154 : decode cX7_twoWires 154 = .ok (.ifCond .eq 7, 3) := by decide +kernel
theorem dX7_twoWires_157 : decode cX7_twoWires 157 = .ok (.iconst 1, 1) := by decide +kernel
theorem dX7_twoWires_158 : decode cX7_twoWires 158 = .ok (.goto 4, 3) := by decide +kernel
theorem dX7_twoWires_161 : decode cX7_twoWires 161 = .ok (.iconst 0, 1) := by decide +kernel
theorem dX7_twoWires_162 : decode cX7_twoWires 162 = .ok (.invokestatic 73, 3) := by decide +kernel
theorem dX7_twoWires_165 : decode cX7_twoWires 165 = .ok (.aload_n 0, 1) := by decide +kernel
theorem dX7_twoWires_166 : decode cX7_twoWires 166 = .ok (.getfield 11, 3) := by decide +kernel
theorem dX7_twoWires_169 : decode cX7_twoWires 169 = .ok (.iload_n 1, 1) := by decide +kernel
theorem dX7_twoWires_170 : decode cX7_twoWires 170 = .ok (.aaload, 1) := by decide +kernel
theorem dX7_twoWires_171 : decode cX7_twoWires 171 = .ok (.invokevirtual 76, 3) := by decide +kernel
theorem dX7_twoWires_174 : decode cX7_twoWires 174 = .ok (.aload_n 0, 1) := by decide +kernel
theorem dX7_twoWires_175 : decode cX7_twoWires 175 = .ok (.getfield 11, 3) := by decide +kernel
theorem dX7_twoWires_178 : decode cX7_twoWires 178 = .ok (.iload_n 2, 1) := by decide +kernel
theorem dX7_twoWires_179 : decode cX7_twoWires 179 = .ok (.aaload, 1) := by decide +kernel
theorem dX7_twoWires_180 : decode cX7_twoWires 180 = .ok (.invokevirtual 76, 3) := by decide +kernel
theorem dX7_twoWires_183 : decode cX7_twoWires 183 = .ok (.aload_n 0, 1) := by decide +kernel
theorem dX7_twoWires_184 : decode cX7_twoWires 184 = .ok (.iload 7, 2) := by decide +kernel
theorem dX7_twoWires_186 : decode cX7_twoWires 186 = .ok (.bipush 57, 2) := by decide +kernel
theorem dX7_twoWires_188 : decode cX7_twoWires 188 = .ok (.iload 8, 2) := by decide +kernel
theorem dX7_twoWires_190 : decode cX7_twoWires 190 = .ok (.imul, 1) := by decide +kernel
theorem dX7_twoWires_191 : decode cX7_twoWires 191 = .ok (.invokevirtual 106, 3) := by decide +kernel
theorem dX7_twoWires_194 : decode cX7_twoWires 194 = .ok (.ireturn, 1) := by decide +kernel
theorem dX7_fourWires_0 : decode cX7_fourWires 0 = .ok (.iload_n 1, 1) := by decide +kernel
theorem dX7_fourWires_1 : decode cX7_fourWires 1 = .ok (.invokestatic 51, 3) := by decide +kernel
theorem dX7_fourWires_4 : decode cX7_fourWires 4 = .ok (.iload_n 2, 1) := by decide +kernel
theorem dX7_fourWires_5 : decode cX7_fourWires 5 = .ok (.invokestatic 51, 3) := by decide +kernel
theorem dX7_fourWires_8 : decode cX7_fourWires 8 = .ok (.iload_n 3, 1) := by decide +kernel
theorem dX7_fourWires_9 : decode cX7_fourWires 9 = .ok (.invokestatic 51, 3) := by decide +kernel
theorem dX7_fourWires_12 : decode cX7_fourWires 12 = .ok (.iload 4, 2) := by decide +kernel
theorem dX7_fourWires_14 : decode cX7_fourWires 14 = .ok (.iconst 0, 1) := by decide +kernel
theorem dX7_fourWires_15 : decode cX7_fourWires 15 = .ok (.sipush 255, 3) := by decide +kernel
theorem dX7_fourWires_18 : decode cX7_fourWires 18 = .ok (.invokestatic 58, 3) := by decide +kernel
theorem dX7_fourWires_21 : decode cX7_fourWires 21 = .ok (.iload 5, 2) := by decide +kernel
theorem dX7_fourWires_23 : decode cX7_fourWires 23 = .ok (.iconst 0, 1) := by decide +kernel
theorem dX7_fourWires_24 : decode cX7_fourWires 24 = .ok (.sipush 9999, 3) := by decide +kernel
theorem dX7_fourWires_27 : decode cX7_fourWires 27 = .ok (.invokestatic 58, 3) := by decide +kernel
theorem dX7_fourWires_30 : decode cX7_fourWires 30 = .ok (.iload 6, 2) := by decide +kernel
theorem dX7_fourWires_32 : decode cX7_fourWires 32 = .ok (.iconst 1, 1) := by decide +kernel
theorem dX7_fourWires_33 : decode cX7_fourWires 33 = .ok (.bipush 50, 2) := by decide +kernel
theorem dX7_fourWires_35 : decode cX7_fourWires 35 = .ok (.invokestatic 58, 3) := by decide +kernel
theorem dX7_fourWires_38 : decode cX7_fourWires 38 = .ok (.iload 7, 2) := by decide +kernel
theorem dX7_fourWires_40 : decode cX7_fourWires 40 = .ok (.iconst 0, 1) := by decide +kernel
theorem dX7_fourWires_41 : decode cX7_fourWires 41 = .ok (.iconst 3, 1) := by decide +kernel
theorem dX7_fourWires_42 : decode cX7_fourWires 42 = .ok (.invokestatic 58, 3) := by decide +kernel
theorem dX7_fourWires_45 : decode cX7_fourWires 45 = .ok (.iload_n 1, 1) := by decide +kernel
theorem dX7_fourWires_46 : decode cX7_fourWires 46 = .ok (.iload_n 2, 1) := by decide +kernel
theorem dX7_fourWires_47 : decode cX7_fourWires 47 = .ok (.iload_n 3, 1) := by decide +kernel
theorem dX7_fourWires_48 : decode cX7_fourWires 48 = .ok (.invokestatic 126, 3) := by decide +kernel
theorem dX7_fourWires_51 : decode cX7_fourWires 51 = .ok (.aload_n 0, 1) := by decide +kernel
theorem dX7_fourWires_52 : decode cX7_fourWires 52 = .ok (.iload 5, 2) := by decide +kernel
theorem dX7_fourWires_54 : decode cX7_fourWires 54 = .ok (.bipush 17, 2) := by decide +kernel
theorem dX7_fourWires_56 : decode cX7_fourWires 56 = .ok (.iload 6, 2) := by decide +kernel
theorem dX7_fourWires_58 : decode cX7_fourWires 58 = .ok (.imul, 1) := by decide +kernel
theorem dX7_fourWires_59 : decode cX7_fourWires 59 = .ok (.invokevirtual 106, 3) := by decide +kernel
theorem dX7_fourWires_62 : decode cX7_fourWires 62 = .ok (.istore 8, 2) := by decide +kernel
theorem dX7_fourWires_64 : decode cX7_fourWires 64 = .ok (.aload_n 0, 1) := by decide +kernel
theorem dX7_fourWires_65 : decode cX7_fourWires 65 = .ok (.getfield 11, 3) := by decide +kernel
theorem dX7_fourWires_68 : decode cX7_fourWires 68 = .ok (.iload_n 3, 1) := by decide +kernel
theorem dX7_fourWires_69 : decode cX7_fourWires 69 = .ok (.aaload, 1) := by decide +kernel
theorem dX7_fourWires_70 : decode cX7_fourWires 70 = .ok (.iload 5, 2) := by decide +kernel
theorem dX7_fourWires_72 : decode cX7_fourWires 72 = .ok (.iload 8, 2) := by decide +kernel
theorem dX7_fourWires_74 : decode cX7_fourWires 74 = .ok (.invokestatic 129, 3) := by decide +kernel
theorem dX7_fourWires_77 : decode cX7_fourWires 77 = .ok (.aload_n 0, 1) := by decide +kernel
theorem dX7_fourWires_78 : decode cX7_fourWires 78 = .ok (.aload_n 0, 1) := by decide +kernel
theorem dX7_fourWires_79 : decode cX7_fourWires 79 = .ok (.getfield 11, 3) := by decide +kernel
theorem dX7_fourWires_82 : decode cX7_fourWires 82 = .ok (.iload_n 1, 1) := by decide +kernel
theorem dX7_fourWires_83 : decode cX7_fourWires 83 = .ok (.aaload, 1) := by decide +kernel
theorem dX7_fourWires_84 : decode cX7_fourWires 84 = .ok (.iload 5, 2) := by decide +kernel
theorem dX7_fourWires_86 : decode cX7_fourWires 86 = .ok (.iload 6, 2) := by decide +kernel
theorem dX7_fourWires_88 : decode cX7_fourWires 88 = .ok (.iload 7, 2) := by decide +kernel
theorem dX7_fourWires_90 : decode cX7_fourWires 90 = .ok (.iconst 2, 1) := by decide +kernel
theorem dX7_fourWires_91 : decode cX7_fourWires 91 = .ok (.if_icmp .lt 7, 3) := by decide +kernel
theorem dX7_fourWires_94 : decode cX7_fourWires 94 = .ok (.iconst 1, 1) := by decide +kernel
theorem dX7_fourWires_95 : decode cX7_fourWires 95 = .ok (.goto 4, 3) := by decide +kernel
theorem dX7_fourWires_98 : decode cX7_fourWires 98 = .ok (.iconst 0, 1) := by decide +kernel
theorem dX7_fourWires_99 : decode cX7_fourWires 99 = .ok (.invokevirtual 133, 3) := by decide +kernel
theorem dX7_fourWires_102 : decode cX7_fourWires 102 = .ok (.aload_n 0, 1) := by decide +kernel
theorem dX7_fourWires_103 : decode cX7_fourWires 103 = .ok (.aload_n 0, 1) := by decide +kernel
theorem dX7_fourWires_104 : decode cX7_fourWires 104 = .ok (.getfield 11, 3) := by decide +kernel
theorem dX7_fourWires_107 : decode cX7_fourWires 107 = .ok (.iload_n 2, 1) := by decide +kernel
theorem dX7_fourWires_108 : decode cX7_fourWires 108 = .ok (.aaload, 1) := by decide +kernel
theorem dX7_fourWires_109 : decode cX7_fourWires 109 = .ok (.iload 4, 2) := by decide +kernel
theorem dX7_fourWires_111 : decode cX7_fourWires 111 = .ok (.iload 5, 2) := by decide +kernel
theorem dX7_fourWires_113 : decode cX7_fourWires 113 = .ok (.iload 6, 2) := by decide +kernel
theorem dX7_fourWires_115 : decode cX7_fourWires 115 = .ok (.iload 7, 2) := by decide +kernel
theorem dX7_fourWires_117 : decode cX7_fourWires 117 = .ok (.iconst 2, 1) := by decide +kernel
theorem dX7_fourWires_118 : decode cX7_fourWires 118 = .ok (.irem, 1) := by decide +kernel
theorem dX7_fourWires_119 : decode cX7_fourWires 119 = .ok (.iconst 1, 1) := by decide +kernel
theorem dX7_fourWires_120 : decode cX7_fourWires 120 = .ok (.if_icmp .ne 7, 3) := by decide +kernel
theorem dX7_fourWires_123 : decode cX7_fourWires 123 = .ok (.iconst 1, 1) := by decide +kernel
theorem dX7_fourWires_124 : decode cX7_fourWires 124 = .ok (.goto 4, 3) := by decide +kernel
theorem dX7_fourWires_127 : decode cX7_fourWires 127 = .ok (.iconst 0, 1) := by decide +kernel
theorem dX7_fourWires_128 : decode cX7_fourWires 128 = .ok (.invokevirtual 137, 3) := by decide +kernel
theorem dX7_fourWires_131 : decode cX7_fourWires 131 = .ok (.aload_n 0, 1) := by decide +kernel
theorem dX7_fourWires_132 : decode cX7_fourWires 132 = .ok (.getfield 11, 3) := by decide +kernel
theorem dX7_fourWires_135 : decode cX7_fourWires 135 = .ok (.iload_n 1, 1) := by decide +kernel
theorem dX7_fourWires_136 : decode cX7_fourWires 136 = .ok (.aaload, 1) := by decide +kernel
theorem dX7_fourWires_137 : decode cX7_fourWires 137 = .ok (.invokevirtual 69, 3) := by decide +kernel
theorem dX7_fourWires_140 : decode cX7_fourWires 140 = .ok (.ifCond .eq 31, 3) := by decide +kernel
theorem dX7_fourWires_143 : decode cX7_fourWires 143 = .ok (.aload_n 0, 1) := by decide +kernel
theorem dX7_fourWires_144 : decode cX7_fourWires 144 = .ok (.getfield 11, 3) := by decide +kernel
theorem dX7_fourWires_147 : decode cX7_fourWires 147 = .ok (.iload_n 2, 1) := by decide +kernel
theorem dX7_fourWires_148 : decode cX7_fourWires 148 = .ok (.aaload, 1) := by decide +kernel
theorem dX7_fourWires_149 : decode cX7_fourWires 149 = .ok (.invokevirtual 69, 3) := by decide +kernel
theorem dX7_fourWires_152 : decode cX7_fourWires 152 = .ok (.ifCond .eq 19, 3) := by decide +kernel
theorem dX7_fourWires_155 : decode cX7_fourWires 155 = .ok (.aload_n 0, 1) := by decide +kernel
theorem dX7_fourWires_156 : decode cX7_fourWires 156 = .ok (.getfield 11, 3) := by decide +kernel
theorem dX7_fourWires_159 : decode cX7_fourWires 159 = .ok (.iload_n 3, 1) := by decide +kernel
theorem dX7_fourWires_160 : decode cX7_fourWires 160 = .ok (.aaload, 1) := by decide +kernel
theorem dX7_fourWires_161 : decode cX7_fourWires 161 = .ok (.invokevirtual 69, 3) := by decide +kernel
theorem dX7_fourWires_164 : decode cX7_fourWires 164 = .ok (.ifCond .eq 7, 3) := by decide +kernel
theorem dX7_fourWires_167 : decode cX7_fourWires 167 = .ok (.iconst 1, 1) := by decide +kernel
theorem dX7_fourWires_168 : decode cX7_fourWires 168 = .ok (.goto 4, 3) := by decide +kernel
theorem dX7_fourWires_171 : decode cX7_fourWires 171 = .ok (.iconst 0, 1) := by decide +kernel
theorem dX7_fourWires_172 : decode cX7_fourWires 172 = .ok (.invokestatic 73, 3) := by decide +kernel
theorem dX7_fourWires_175 : decode cX7_fourWires 175 = .ok (.aload_n 0, 1) := by decide +kernel
theorem dX7_fourWires_176 : decode cX7_fourWires 176 = .ok (.getfield 11, 3) := by decide +kernel
theorem dX7_fourWires_179 : decode cX7_fourWires 179 = .ok (.iload_n 1, 1) := by decide +kernel
theorem dX7_fourWires_180 : decode cX7_fourWires 180 = .ok (.aaload, 1) := by decide +kernel
theorem dX7_fourWires_181 : decode cX7_fourWires 181 = .ok (.invokevirtual 76, 3) := by decide +kernel
theorem dX7_fourWires_184 : decode cX7_fourWires 184 = .ok (.aload_n 0, 1) := by decide +kernel
theorem dX7_fourWires_185 : decode cX7_fourWires 185 = .ok (.getfield 11, 3) := by decide +kernel
theorem dX7_fourWires_188 : decode cX7_fourWires 188 = .ok (.iload_n 2, 1) := by decide +kernel
theorem dX7_fourWires_189 : decode cX7_fourWires 189 = .ok (.aaload, 1) := by decide +kernel
theorem dX7_fourWires_190 : decode cX7_fourWires 190 = .ok (.invokevirtual 76, 3) := by decide +kernel
theorem dX7_fourWires_193 : decode cX7_fourWires 193 = .ok (.aload_n 0, 1) := by decide +kernel
theorem dX7_fourWires_194 : decode cX7_fourWires 194 = .ok (.getfield 11, 3) := by decide +kernel
theorem dX7_fourWires_197 : decode cX7_fourWires 197 = .ok (.iload_n 3, 1) := by decide +kernel
theorem dX7_fourWires_198 : decode cX7_fourWires 198 = .ok (.aaload, 1) := by decide +kernel
theorem dX7_fourWires_199 : decode cX7_fourWires 199 = .ok (.invokevirtual 76, 3) := by decide +kernel
theorem dX7_fourWires_202 : decode cX7_fourWires 202 = .ok (.iload 8, 2) := by decide +kernel
theorem dX7_fourWires_204 : decode cX7_fourWires 204 = .ok (.ireturn, 1) := by decide +kernel
theorem dX7_capture_0 : decode cX7_capture 0 = .ok (.iload_n 1, 1) := by decide +kernel
theorem dX7_capture_1 : decode cX7_capture 1 = .ok (.invokestatic 141, 3) := by decide +kernel
theorem dX7_capture_4 : decode cX7_capture 4 = .ok (.iload_n 2, 1) := by decide +kernel
theorem dX7_capture_5 : decode cX7_capture 5 = .ok (.iconst 0, 1) := by decide +kernel
theorem dX7_capture_6 : decode cX7_capture 6 = .ok (.sipush 9999, 3) := by decide +kernel
theorem dX7_capture_9 : decode cX7_capture 9 = .ok (.invokestatic 58, 3) := by decide +kernel
theorem dX7_capture_12 : decode cX7_capture 12 = .ok (.iload_n 3, 1) := by decide +kernel
theorem dX7_capture_13 : decode cX7_capture 13 = .ok (.iconst 1, 1) := by decide +kernel
theorem dX7_capture_14 : decode cX7_capture 14 = .ok (.bipush 99, 2) := by decide +kernel
theorem dX7_capture_16 : decode cX7_capture 16 = .ok (.invokestatic 58, 3) := by decide +kernel
theorem dX7_capture_19 : decode cX7_capture 19 = .ok (.iload 4, 2) := by decide +kernel
theorem dX7_capture_21 : decode cX7_capture 21 = .ok (.iconst 1, 1) := by decide +kernel
theorem dX7_capture_22 : decode cX7_capture 22 = .ok (.sipush 400, 3) := by decide +kernel
theorem dX7_capture_25 : decode cX7_capture 25 = .ok (.invokestatic 58, 3) := by decide +kernel
theorem dX7_capture_28 : decode cX7_capture 28 = .ok (.iload_n 2, 1) := by decide +kernel
theorem dX7_capture_29 : decode cX7_capture 29 = .ok (.iload_n 3, 1) := by decide +kernel
theorem dX7_capture_30 : decode cX7_capture 30 = .ok (.iload 4, 2) := by decide +kernel
theorem dX7_capture_32 : decode cX7_capture 32 = .ok (.iconst 1, 1) := by decide +kernel
theorem dX7_capture_33 : decode cX7_capture 33 = .ok (.isub, 1) := by decide +kernel
theorem dX7_capture_34 : decode cX7_capture 34 = .ok (.imul, 1) := by decide +kernel
theorem dX7_capture_35 : decode cX7_capture 35 = .ok (.iadd, 1) := by decide +kernel
theorem dX7_capture_36 : decode cX7_capture 36 = .ok (.iconst 0, 1) := by decide +kernel
theorem dX7_capture_37 : decode cX7_capture 37 = .ok (.sipush 9999, 3) := by decide +kernel
theorem dX7_capture_40 : decode cX7_capture 40 = .ok (.invokestatic 58, 3) := by decide +kernel
theorem dX7_capture_43 : decode cX7_capture 43 = .ok (.aload_n 0, 1) := by decide +kernel
theorem dX7_capture_44 : decode cX7_capture 44 = .ok (.getfield 18, 3) := by decide +kernel
theorem dX7_capture_47 : decode cX7_capture 47 = .ok (.iload_n 1, 1) := by decide +kernel
theorem dX7_capture_48 : decode cX7_capture 48 = .ok (.aaload, 1) := by decide +kernel
theorem dX7_capture_49 : decode cX7_capture 49 = .ok (.astore 5, 2) := by decide +kernel
theorem dX7_capture_51 : decode cX7_capture 51 = .ok (.aload 5, 2) := by decide +kernel
theorem dX7_capture_53 : decode cX7_capture 53 = .ok (.iload 4, 2) := by decide +kernel
theorem dX7_capture_55 : decode cX7_capture 55 = .ok (.invokevirtual 144, 3) := by decide +kernel
theorem dX7_capture_58 : decode cX7_capture 58 = .ok (.iconst 0, 1) := by decide +kernel
theorem dX7_capture_59 : decode cX7_capture 59 = .ok (.istore 6, 2) := by decide +kernel
theorem dX7_capture_61 : decode cX7_capture 61 = .ok (.iload 6, 2) := by decide +kernel
theorem dX7_capture_63 : decode cX7_capture 63 = .ok (.aload_n 0, 1) := by decide +kernel
theorem dX7_capture_64 : decode cX7_capture 64 = .ok (.getfield 11, 3) := by decide +kernel
theorem dX7_capture_67 : decode cX7_capture 67 = .ok (.arraylength, 1) := by decide +kernel
theorem dX7_capture_68 : decode cX7_capture 68 = .ok (.if_icmp .ge 27, 3) := by decide +kernel
theorem dX7_capture_71 : decode cX7_capture 71 = .ok (.aload_n 0, 1) := by decide +kernel
theorem dX7_capture_72 : decode cX7_capture 72 = .ok (.getfield 11, 3) := by decide +kernel
theorem dX7_capture_75 : decode cX7_capture 75 = .ok (.iload 6, 2) := by decide +kernel
theorem dX7_capture_77 : decode cX7_capture 77 = .ok (.aaload, 1) := by decide +kernel
theorem dX7_capture_78 : decode cX7_capture 78 = .ok (.aload 5, 2) := by decide +kernel
theorem dX7_capture_80 : decode cX7_capture 80 = .ok (.iconst 1, 1) := by decide +kernel
theorem dX7_capture_81 : decode cX7_capture 81 = .ok (.iload 6, 2) := by decide +kernel
theorem dX7_capture_83 : decode cX7_capture 83 = .ok (.ishl, 1) := by decide +kernel
theorem dX7_capture_84 : decode cX7_capture 84 = .ok (.iload_n 2, 1) := by decide +kernel
theorem dX7_capture_85 : decode cX7_capture 85 = .ok (.iload_n 3, 1) := by decide +kernel
theorem dX7_capture_86 : decode cX7_capture 86 = .ok (.invokevirtual 147, 3) := by decide +kernel
theorem dX7_capture_89 : decode cX7_capture 89 = .ok (.iinc 6 1, 3) := by decide +kernel
theorem dX7_capture_92 : decode cX7_capture 92 = .ok (.goto (-31), 3) := by decide +kernel
theorem dX7_capture_95 : decode cX7_capture 95 = .ok (.aload 5, 2) := by decide +kernel
theorem dX7_capture_97 : decode cX7_capture 97 = .ok (.invokevirtual 151, 3) := by decide +kernel
theorem dX7_capture_100 : decode cX7_capture 100 = .ok (.ireturn, 1) := by decide +kernel
theorem dX7_samples_0 : decode cX7_samples 0 = .ok (.iload_n 1, 1) := by decide +kernel
theorem dX7_samples_1 : decode cX7_samples 1 = .ok (.invokestatic 141, 3) := by decide +kernel
theorem dX7_samples_4 : decode cX7_samples 4 = .ok (.aload_n 0, 1) := by decide +kernel
theorem dX7_samples_5 : decode cX7_samples 5 = .ok (.getfield 18, 3) := by decide +kernel
theorem dX7_samples_8 : decode cX7_samples 8 = .ok (.iload_n 1, 1) := by decide +kernel
theorem dX7_samples_9 : decode cX7_samples 9 = .ok (.aaload, 1) := by decide +kernel
theorem dX7_samples_10 : decode cX7_samples 10 = .ok (.getfield 155, 3) := by decide +kernel
theorem dX7_samples_13 : decode cX7_samples 13 = .ok (.ireturn, 1) := by decide +kernel
theorem dX7_sample_0 : decode cX7_sample 0 = .ok (.iload_n 1, 1) := by decide +kernel
theorem dX7_sample_1 : decode cX7_sample 1 = .ok (.invokestatic 141, 3) := by decide +kernel
theorem dX7_sample_4 : decode cX7_sample 4 = .ok (.aload_n 0, 1) := by decide +kernel
theorem dX7_sample_5 : decode cX7_sample 5 = .ok (.getfield 18, 3) := by decide +kernel
theorem dX7_sample_8 : decode cX7_sample 8 = .ok (.iload_n 1, 1) := by decide +kernel
theorem dX7_sample_9 : decode cX7_sample 9 = .ok (.aaload, 1) := by decide +kernel
theorem dX7_sample_10 : decode cX7_sample 10 = .ok (.iload_n 2, 1) := by decide +kernel
theorem dX7_sample_11 : decode cX7_sample 11 = .ok (.invokevirtual 156, 3) := by decide +kernel
theorem dX7_sample_14 : decode cX7_sample 14 = .ok (.invokestatic 159, 3) := by decide +kernel
theorem dX7_sample_17 : decode cX7_sample 17 = .ok (.aload_n 0, 1) := by decide +kernel
theorem dX7_sample_18 : decode cX7_sample 18 = .ok (.getfield 18, 3) := by decide +kernel
theorem dX7_sample_21 : decode cX7_sample 21 = .ok (.iload_n 1, 1) := by decide +kernel
theorem dX7_sample_22 : decode cX7_sample 22 = .ok (.aaload, 1) := by decide +kernel
theorem dX7_sample_23 : decode cX7_sample 23 = .ok (.iload_n 2, 1) := by decide +kernel
theorem dX7_sample_24 : decode cX7_sample 24 = .ok (.invokevirtual 162, 3) := by decide +kernel
theorem dX7_sample_27 : decode cX7_sample 27 = .ok (.ireturn, 1) := by decide +kernel
theorem dX7_runs_0 : decode cX7_runs 0 = .ok (.iload_n 1, 1) := by decide +kernel
theorem dX7_runs_1 : decode cX7_runs 1 = .ok (.invokestatic 141, 3) := by decide +kernel
theorem dX7_runs_4 : decode cX7_runs 4 = .ok (.iload_n 2, 1) := by decide +kernel
theorem dX7_runs_5 : decode cX7_runs 5 = .ok (.invokestatic 51, 3) := by decide +kernel
theorem dX7_runs_8 : decode cX7_runs 8 = .ok (.aload_n 0, 1) := by decide +kernel
theorem dX7_runs_9 : decode cX7_runs 9 = .ok (.getfield 18, 3) := by decide +kernel
theorem dX7_runs_12 : decode cX7_runs 12 = .ok (.iload_n 1, 1) := by decide +kernel
theorem dX7_runs_13 : decode cX7_runs 13 = .ok (.aaload, 1) := by decide +kernel
theorem dX7_runs_14 : decode cX7_runs 14 = .ok (.iload_n 2, 1) := by decide +kernel
theorem dX7_runs_15 : decode cX7_runs 15 = .ok (.invokevirtual 166, 3) := by decide +kernel
theorem dX7_runs_18 : decode cX7_runs 18 = .ok (.ireturn, 1) := by decide +kernel
theorem dX7_run_0 : decode cX7_run 0 = .ok (.iload_n 1, 1) := by decide +kernel
theorem dX7_run_1 : decode cX7_run 1 = .ok (.invokestatic 141, 3) := by decide +kernel
theorem dX7_run_4 : decode cX7_run 4 = .ok (.iload_n 2, 1) := by decide +kernel
theorem dX7_run_5 : decode cX7_run 5 = .ok (.invokestatic 51, 3) := by decide +kernel
theorem dX7_run_8 : decode cX7_run 8 = .ok (.aload_n 0, 1) := by decide +kernel
theorem dX7_run_9 : decode cX7_run 9 = .ok (.getfield 18, 3) := by decide +kernel
theorem dX7_run_12 : decode cX7_run 12 = .ok (.iload_n 1, 1) := by decide +kernel
theorem dX7_run_13 : decode cX7_run 13 = .ok (.aaload, 1) := by decide +kernel
theorem dX7_run_14 : decode cX7_run 14 = .ok (.iload_n 2, 1) := by decide +kernel
theorem dX7_run_15 : decode cX7_run 15 = .ok (.iload_n 3, 1) := by decide +kernel
theorem dX7_run_16 : decode cX7_run 16 = .ok (.invokevirtual 169, 3) := by decide +kernel
theorem dX7_run_19 : decode cX7_run 19 = .ok (.istore 4, 2) := by decide +kernel
theorem dX7_run_21 : decode cX7_run 21 = .ok (.iload 4, 2) := by decide +kernel
theorem dX7_run_23 : decode cX7_run 23 = .ok (.ifCond .le 7, 3) := by decide +kernel
theorem dX7_run_26 : decode cX7_run 26 = .ok (.iconst 1, 1) := by decide +kernel
theorem dX7_run_27 : decode cX7_run 27 = .ok (.goto 4, 3) := by decide +kernel
theorem dX7_run_30 : decode cX7_run 30 = .ok (.iconst 0, 1) := by decide +kernel
theorem dX7_run_31 : decode cX7_run 31 = .ok (.invokestatic 159, 3) := by decide +kernel
theorem dX7_run_34 : decode cX7_run 34 = .ok (.iload 4, 2) := by decide +kernel
theorem dX7_run_36 : decode cX7_run 36 = .ok (.ireturn, 1) := by decide +kernel
theorem dX7_shortest_0 : decode cX7_shortest 0 = .ok (.aload_n 0, 1) := by decide +kernel
theorem dX7_shortest_1 : decode cX7_shortest 1 = .ok (.iload_n 1, 1) := by decide +kernel
theorem dX7_shortest_2 : decode cX7_shortest 2 = .ok (.iload_n 2, 1) := by decide +kernel
theorem dX7_shortest_3 : decode cX7_shortest 3 = .ok (.invokevirtual 172, 3) := by decide +kernel
theorem dX7_shortest_6 : decode cX7_shortest 6 = .ok (.ireturn, 1) := by decide +kernel
theorem dX7_block_0 : decode cX7_block 0 = .ok (.iload_n 1, 1) := by decide +kernel
theorem dX7_block_1 : decode cX7_block 1 = .ok (.invokestatic 141, 3) := by decide +kernel
theorem dX7_block_4 : decode cX7_block 4 = .ok (.iload_n 2, 1) := by decide +kernel
theorem dX7_block_5 : decode cX7_block 5 = .ok (.invokestatic 51, 3) := by decide +kernel
theorem dX7_block_8 : decode cX7_block 8 = .ok (.iload_n 3, 1) := by decide +kernel
theorem dX7_block_9 : decode cX7_block 9 = .ok (.iconst 0, 1) := by decide +kernel
theorem dX7_block_10 : decode cX7_block 10 = .ok (.bipush 9, 2) := by decide +kernel
theorem dX7_block_12 : decode cX7_block 12 = .ok (.invokestatic 58, 3) := by decide +kernel
theorem dX7_block_15 : decode cX7_block 15 = .ok (.aload_n 0, 1) := by decide +kernel
theorem dX7_block_16 : decode cX7_block 16 = .ok (.getfield 18, 3) := by decide +kernel
theorem dX7_block_19 : decode cX7_block 19 = .ok (.iload_n 1, 1) := by decide +kernel
theorem dX7_block_20 : decode cX7_block 20 = .ok (.aaload, 1) := by decide +kernel
theorem dX7_block_21 : decode cX7_block 21 = .ok (.astore 5, 2) := by decide +kernel
theorem dX7_block_23 : decode cX7_block 23 = .ok (.iload 4, 2) := by decide +kernel
theorem dX7_block_25 : decode cX7_block 25 = .ok (.ifCond .lt 18, 3) := by decide +kernel
theorem dX7_block_28 : decode cX7_block 28 = .ok (.iload 4, 2) := by decide +kernel
theorem dX7_block_30 : decode cX7_block 30 = .ok (.aload 5, 2) := by decide +kernel
theorem dX7_block_32 : decode cX7_block 32 = .ok (.iload_n 3, 1) := by decide +kernel
theorem dX7_block_33 : decode cX7_block 33 = .ok (.invokevirtual 175, 3) := by decide +kernel
theorem dX7_block_36 : decode cX7_block 36 = .ok (.if_icmp .ge 7, 3) := by decide +kernel
theorem dX7_block_39 : decode cX7_block 39 = .ok (.iconst 1, 1) := by decide +kernel
theorem dX7_block_40 : decode cX7_block 40 = .ok (.goto 4, 3) := by decide +kernel
theorem dX7_block_43 : decode cX7_block 43 = .ok (.iconst 0, 1) := by decide +kernel
theorem dX7_block_44 : decode cX7_block 44 = .ok (.invokestatic 159, 3) := by decide +kernel
theorem dX7_block_47 : decode cX7_block 47 = .ok (.aload 5, 2) := by decide +kernel
theorem dX7_block_49 : decode cX7_block 49 = .ok (.iload_n 2, 1) := by decide +kernel
theorem dX7_block_50 : decode cX7_block 50 = .ok (.iload_n 3, 1) := by decide +kernel
theorem dX7_block_51 : decode cX7_block 51 = .ok (.iload 4, 2) := by decide +kernel
theorem dX7_block_53 : decode cX7_block 53 = .ok (.invokevirtual 178, 3) := by decide +kernel
theorem dX7_block_56 : decode cX7_block 56 = .ok (.ireturn, 1) := by decide +kernel
theorem dX7_step_0 : decode cX7_step 0 = .ok (.iload_n 1, 1) := by decide +kernel
theorem dX7_step_1 : decode cX7_step 1 = .ok (.bipush 112, 2) := by decide +kernel
theorem dX7_step_3 : decode cX7_step 3 = .ok (.if_icmp .eq 13, 3) := by decide +kernel
theorem dX7_step_6 : decode cX7_step 6 = .ok (.iload_n 1, 1) := by decide +kernel
theorem dX7_step_7 : decode cX7_step 7 = .ok (.bipush 116, 2) := by decide +kernel
theorem dX7_step_9 : decode cX7_step 9 = .ok (.if_icmp .eq 7, 3) := by decide +kernel
theorem dX7_step_12 : decode cX7_step 12 = .ok (.iload_n 2, 1) := by decide +kernel
theorem dX7_step_13 : decode cX7_step 13 = .ok (.invokestatic 51, 3) := by decide +kernel
theorem dX7_step_16 : decode cX7_step 16 = .ok (.iload_n 1, 1) := by decide +kernel
theorem dX7_step_17 : decode cX7_step 17 = .ok (.invokestatic 182, 3) := by decide +kernel
theorem dX7_step_20 : decode cX7_step 20 = .ok (.iload_n 3, 1) := by decide +kernel
theorem dX7_step_21 : decode cX7_step 21 = .ok (.iload_n 1, 1) := by decide +kernel
theorem dX7_step_22 : decode cX7_step 22 = .ok (.bipush 112, 2) := by decide +kernel
theorem dX7_step_24 : decode cX7_step 24 = .ok (.if_icmp .ne 7, 3) := by decide +kernel
theorem dX7_step_27 : decode cX7_step 27 = .ok (.iconst 0, 1) := by decide +kernel
theorem dX7_step_28 : decode cX7_step 28 = .ok (.goto 4, 3) := by decide +kernel
theorem dX7_step_31 : decode cX7_step 31 = .ok (.iconst 1, 1) := by decide +kernel
theorem dX7_step_32 : decode cX7_step 32 = .ok (.iload_n 1, 1) := by decide +kernel
theorem dX7_step_33 : decode cX7_step 33 = .ok (.bipush 112, 2) := by decide +kernel
theorem dX7_step_35 : decode cX7_step 35 = .ok (.if_icmp .ne 8, 3) := by decide +kernel
theorem dX7_step_38 : decode cX7_step 38 = .ok (.bipush 15, 2) := by decide +kernel
theorem dX7_step_40 : decode cX7_step 40 = .ok (.goto 6, 3) := by decide +kernel
theorem dX7_step_43 : decode cX7_step 43 = .ok (.sipush 400, 3) := by decide +kernel
theorem dX7_step_46 : decode cX7_step 46 = .ok (.invokestatic 58, 3) := by decide +kernel
theorem dX7_step_49 : decode cX7_step 49 = .ok (.aload_n 0, 1) := by decide +kernel
theorem dX7_step_50 : decode cX7_step 50 = .ok (.invokevirtual 185, 3) := by decide +kernel
theorem dX7_step_53 : decode cX7_step 53 = .ok (.aload_n 0, 1) := by decide +kernel
theorem dX7_step_54 : decode cX7_step 54 = .ok (.getfield 26, 3) := by decide +kernel
theorem dX7_step_57 : decode cX7_step 57 = .ok (.iload_n 1, 1) := by decide +kernel
theorem dX7_step_58 : decode cX7_step 58 = .ok (.iload_n 2, 1) := by decide +kernel
theorem dX7_step_59 : decode cX7_step 59 = .ok (.iload_n 3, 1) := by decide +kernel
theorem dX7_step_60 : decode cX7_step 60 = .ok (.invokevirtual 188, 3) := by decide +kernel
theorem dX7_step_63 : decode cX7_step 63 = .ok (.aload_n 0, 1) := by decide +kernel
theorem dX7_step_64 : decode cX7_step 64 = .ok (.getfield 26, 3) := by decide +kernel
theorem dX7_step_67 : decode cX7_step 67 = .ok (.getfield 192, 3) := by decide +kernel
theorem dX7_step_70 : decode cX7_step 70 = .ok (.ireturn, 1) := by decide +kernel
theorem dX7_reset_0 : decode cX7_reset 0 = .ok (.aload_n 0, 1) := by decide +kernel
theorem dX7_reset_1 : decode cX7_reset 1 = .ok (.getfield 26, 3) := by decide +kernel
theorem dX7_reset_4 : decode cX7_reset 4 = .ok (.getfield 192, 3) := by decide +kernel
theorem dX7_reset_7 : decode cX7_reset 7 = .ok (.istore_n 1, 1) := by decide +kernel
theorem dX7_reset_8 : decode cX7_reset 8 = .ok (.aload_n 0, 1) := by decide +kernel
theorem dX7_reset_9 : decode cX7_reset 9 = .ok (.getfield 26, 3) := by decide +kernel
theorem dX7_reset_12 : decode cX7_reset 12 = .ok (.iconst 0, 1) := by decide +kernel
theorem dX7_reset_13 : decode cX7_reset 13 = .ok (.putfield 192, 3) := by decide +kernel
theorem dX7_reset_16 : decode cX7_reset 16 = .ok (.iload_n 1, 1) := by decide +kernel
theorem dX7_reset_17 : decode cX7_reset 17 = .ok (.ireturn, 1) := by decide +kernel
theorem dX7_trigger_0 : decode cX7_trigger 0 = .ok (.iload_n 1, 1) := by decide +kernel
theorem dX7_trigger_1 : decode cX7_trigger 1 = .ok (.invokestatic 141, 3) := by decide +kernel
theorem dX7_trigger_4 : decode cX7_trigger 4 = .ok (.aload_n 0, 1) := by decide +kernel
theorem dX7_trigger_5 : decode cX7_trigger 5 = .ok (.getfield 26, 3) := by decide +kernel
theorem dX7_trigger_8 : decode cX7_trigger 8 = .ok (.getfield 192, 3) := by decide +kernel
theorem dX7_trigger_11 : decode cX7_trigger 11 = .ok (.ifCond .le 7, 3) := by decide +kernel
theorem dX7_trigger_14 : decode cX7_trigger 14 = .ok (.iconst 1, 1) := by decide +kernel
theorem dX7_trigger_15 : decode cX7_trigger 15 = .ok (.goto 4, 3) := by decide +kernel
theorem dX7_trigger_18 : decode cX7_trigger 18 = .ok (.iconst 0, 1) := by decide +kernel
theorem dX7_trigger_19 : decode cX7_trigger 19 = .ok (.invokestatic 193, 3) := by decide +kernel
theorem dX7_trigger_22 : decode cX7_trigger 22 = .ok (.aload_n 0, 1) := by decide +kernel
theorem dX7_trigger_23 : decode cX7_trigger 23 = .ok (.getfield 26, 3) := by decide +kernel
theorem dX7_trigger_26 : decode cX7_trigger 26 = .ok (.aload_n 0, 1) := by decide +kernel
theorem dX7_trigger_27 : decode cX7_trigger 27 = .ok (.getfield 18, 3) := by decide +kernel
theorem dX7_trigger_30 : decode cX7_trigger 30 = .ok (.iload_n 1, 1) := by decide +kernel
theorem dX7_trigger_31 : decode cX7_trigger 31 = .ok (.aaload, 1) := by decide +kernel
theorem dX7_trigger_32 : decode cX7_trigger 32 = .ok (.invokevirtual 196, 3) := by decide +kernel
theorem dX7_trigger_35 : decode cX7_trigger 35 = .ok (.istore_n 2, 1) := by decide +kernel
theorem dX7_trigger_36 : decode cX7_trigger 36 = .ok (.iload_n 2, 1) := by decide +kernel
theorem dX7_trigger_37 : decode cX7_trigger 37 = .ok (.ifCond .lt 7, 3) := by decide +kernel
theorem dX7_trigger_40 : decode cX7_trigger 40 = .ok (.iconst 1, 1) := by decide +kernel
theorem dX7_trigger_41 : decode cX7_trigger 41 = .ok (.goto 4, 3) := by decide +kernel
theorem dX7_trigger_44 : decode cX7_trigger 44 = .ok (.iconst 0, 1) := by decide +kernel
theorem dX7_trigger_45 : decode cX7_trigger 45 = .ok (.invokestatic 159, 3) := by decide +kernel
theorem dX7_trigger_48 : decode cX7_trigger 48 = .ok (.iload_n 2, 1) := by decide +kernel
theorem dX7_trigger_49 : decode cX7_trigger 49 = .ok (.ireturn, 1) := by decide +kernel
theorem dX7_decodeSerial_0 : decode cX7_decodeSerial 0 = .ok (.iload_n 1, 1) := by decide +kernel
theorem dX7_decodeSerial_1 : decode cX7_decodeSerial 1 = .ok (.invokestatic 141, 3) := by decide +kernel
theorem dX7_decodeSerial_4 : decode cX7_decodeSerial 4 = .ok (.iload_n 2, 1) := by decide +kernel
theorem dX7_decodeSerial_5 : decode cX7_decodeSerial 5 = .ok (.invokestatic 51, 3) := by decide +kernel
theorem dX7_decodeSerial_8 : decode cX7_decodeSerial 8 = .ok (.iload_n 3, 1) := by decide +kernel
theorem dX7_decodeSerial_9 : decode cX7_decodeSerial 9 = .ok (.bipush 10, 2) := by decide +kernel
theorem dX7_decodeSerial_11 : decode cX7_decodeSerial 11 = .ok (.sipush 999, 3) := by decide +kernel
theorem dX7_decodeSerial_14 : decode cX7_decodeSerial 14 = .ok (.invokestatic 58, 3) := by decide +kernel
theorem dX7_decodeSerial_17 : decode cX7_decodeSerial 17 = .ok (.iload 4, 2) := by decide +kernel
theorem dX7_decodeSerial_19 : decode cX7_decodeSerial 19 = .ok (.invokestatic 90, 3) := by decide +kernel
theorem dX7_decodeSerial_22 : decode cX7_decodeSerial 22 = .ok (.aload_n 0, 1) := by decide +kernel
theorem dX7_decodeSerial_23 : decode cX7_decodeSerial 23 = .ok (.getfield 33, 3) := by decide +kernel
theorem dX7_decodeSerial_26 : decode cX7_decodeSerial 26 = .ok (.iconst 0, 1) := by decide +kernel
theorem dX7_decodeSerial_27 : decode cX7_decodeSerial 27 = .ok (.putfield 200, 3) := by decide +kernel
theorem dX7_decodeSerial_30 : decode cX7_decodeSerial 30 = .ok (.aload_n 0, 1) := by decide +kernel
theorem dX7_decodeSerial_31 : decode cX7_decodeSerial 31 = .ok (.getfield 18, 3) := by decide +kernel
theorem dX7_decodeSerial_34 : decode cX7_decodeSerial 34 = .ok (.iload_n 1, 1) := by decide +kernel
theorem dX7_decodeSerial_35 : decode cX7_decodeSerial 35 = .ok (.aaload, 1) := by decide +kernel
theorem dX7_decodeSerial_36 : decode cX7_decodeSerial 36 = .ok (.astore 5, 2) := by decide +kernel
theorem dX7_decodeSerial_38 : decode cX7_decodeSerial 38 = .ok (.iconst 1, 1) := by decide +kernel
theorem dX7_decodeSerial_39 : decode cX7_decodeSerial 39 = .ok (.istore 6, 2) := by decide +kernel
theorem dX7_decodeSerial_41 : decode cX7_decodeSerial 41 = .ok (.iconst 1, 1) := by decide +kernel
theorem dX7_decodeSerial_42 : decode cX7_decodeSerial 42 = .ok (.istore 7, 2) := by decide +kernel
theorem dX7_decodeSerial_44 : decode cX7_decodeSerial 44 = .ok (.iload 7, 2) := by decide +kernel
theorem dX7_decodeSerial_46 : decode cX7_decodeSerial 46 = .ok (.aload 5, 2) := by decide +kernel
theorem dX7_decodeSerial_48 : decode cX7_decodeSerial 48 = .ok (.getfield 155, 3) := by decide +kernel
theorem dX7_decodeSerial_51 : decode cX7_decodeSerial 51 = .ok (.if_icmp .ge 41, 3) := by decide +kernel
theorem dX7_decodeSerial_54 : decode cX7_decodeSerial 54 = .ok (.iload 7, 2) := by decide +kernel
theorem dX7_decodeSerial_56 : decode cX7_decodeSerial 56 = .ok (.iload 6, 2) := by decide +kernel
theorem dX7_decodeSerial_58 : decode cX7_decodeSerial 58 = .ok (.if_icmp .lt 28, 3) := by decide +kernel
theorem dX7_decodeSerial_61 : decode cX7_decodeSerial 61 = .ok (.aload 5, 2) := by decide +kernel
theorem dX7_decodeSerial_63 : decode cX7_decodeSerial 63 = .ok (.iload_n 2, 1) := by decide +kernel
theorem dX7_decodeSerial_64 : decode cX7_decodeSerial 64 = .ok (.iload 7, 2) := by decide +kernel
theorem dX7_decodeSerial_66 : decode cX7_decodeSerial 66 = .ok (.invokevirtual 201, 3) := by decide +kernel
theorem dX7_decodeSerial_69 : decode cX7_decodeSerial 69 = .ok (.ifCond .eq 17, 3) := by decide +kernel
theorem dX7_decodeSerial_72 : decode cX7_decodeSerial 72 = .ok (.aload_n 0, 1) := by decide +kernel
theorem dX7_decodeSerial_73 : decode cX7_decodeSerial 73 = .ok (.aload 5, 2) := by decide +kernel
theorem dX7_decodeSerial_75 : decode cX7_decodeSerial 75 = .ok (.iload_n 2, 1) := by decide +kernel
theorem dX7_decodeSerial_76 : decode cX7_decodeSerial 76 = .ok (.iload 7, 2) := by decide +kernel
theorem dX7_decodeSerial_78 : decode cX7_decodeSerial 78 = .ok (.iload_n 3, 1) := by decide +kernel
theorem dX7_decodeSerial_79 : decode cX7_decodeSerial 79 = .ok (.iload 4, 2) := by decide +kernel
theorem dX7_decodeSerial_81 : decode cX7_decodeSerial 81 = .ok (.invokevirtual 204, 3) := by decide +kernel
theorem dX7_decodeSerial_84 : decode cX7_decodeSerial 84 = .ok (.istore 6, 2) := by decide +kernel
theorem dX7_decodeSerial_86 : decode cX7_decodeSerial 86 = .ok (.iinc 7 1, 3) := by decide +kernel
theorem dX7_decodeSerial_89 : decode cX7_decodeSerial 89 = .ok (.goto (-45), 3) := by decide +kernel
theorem dX7_decodeSerial_92 : decode cX7_decodeSerial 92 = .ok (.aload_n 0, 1) := by decide +kernel
theorem dX7_decodeSerial_93 : decode cX7_decodeSerial 93 = .ok (.getfield 33, 3) := by decide +kernel
theorem dX7_decodeSerial_96 : decode cX7_decodeSerial 96 = .ok (.getfield 200, 3) := by decide +kernel
theorem dX7_decodeSerial_99 : decode cX7_decodeSerial 99 = .ok (.ireturn, 1) := by decide +kernel
theorem dX7_decodeTwo_0 : decode cX7_decodeTwo 0 = .ok (.iload_n 1, 1) := by decide +kernel
theorem dX7_decodeTwo_1 : decode cX7_decodeTwo 1 = .ok (.invokestatic 141, 3) := by decide +kernel
theorem dX7_decodeTwo_4 : decode cX7_decodeTwo 4 = .ok (.iload_n 2, 1) := by decide +kernel
theorem dX7_decodeTwo_5 : decode cX7_decodeTwo 5 = .ok (.invokestatic 51, 3) := by decide +kernel
theorem dX7_decodeTwo_8 : decode cX7_decodeTwo 8 = .ok (.iload_n 3, 1) := by decide +kernel
theorem dX7_decodeTwo_9 : decode cX7_decodeTwo 9 = .ok (.invokestatic 51, 3) := by decide +kernel
theorem dX7_decodeTwo_12 : decode cX7_decodeTwo 12 = .ok (.iload_n 2, 1) := by decide +kernel
theorem dX7_decodeTwo_13 : decode cX7_decodeTwo 13 = .ok (.iload_n 3, 1) := by decide +kernel
theorem dX7_decodeTwo_14 : decode cX7_decodeTwo 14 = .ok (.invokestatic 114, 3) := by decide +kernel
theorem dX7_decodeTwo_17 : decode cX7_decodeTwo 17 = .ok (.aload_n 0, 1) := by decide +kernel
theorem dX7_decodeTwo_18 : decode cX7_decodeTwo 18 = .ok (.getfield 33, 3) := by decide +kernel
theorem dX7_decodeTwo_21 : decode cX7_decodeTwo 21 = .ok (.iconst 0, 1) := by decide +kernel
theorem dX7_decodeTwo_22 : decode cX7_decodeTwo 22 = .ok (.putfield 200, 3) := by decide +kernel
theorem dX7_decodeTwo_25 : decode cX7_decodeTwo 25 = .ok (.aload_n 0, 1) := by decide +kernel
theorem dX7_decodeTwo_26 : decode cX7_decodeTwo 26 = .ok (.getfield 18, 3) := by decide +kernel
theorem dX7_decodeTwo_29 : decode cX7_decodeTwo 29 = .ok (.iload_n 1, 1) := by decide +kernel
theorem dX7_decodeTwo_30 : decode cX7_decodeTwo 30 = .ok (.aaload, 1) := by decide +kernel
theorem dX7_decodeTwo_31 : decode cX7_decodeTwo 31 = .ok (.astore 4, 2) := by decide +kernel
theorem dX7_decodeTwo_33 : decode cX7_decodeTwo 33 = .ok (.new 208, 3) := by decide +kernel
theorem dX7_decodeTwo_36 : decode cX7_decodeTwo 36 = .ok (.dup, 1) := by decide +kernel
theorem dX7_decodeTwo_37 : decode cX7_decodeTwo 37 = .ok (.aload_n 0, 1) := by decide +kernel
theorem dX7_decodeTwo_38 : decode cX7_decodeTwo 38 = .ok (.getfield 33, 3) := by decide +kernel
theorem dX7_decodeTwo_41 : decode cX7_decodeTwo 41 = .ok (.aload_n 0, 1) := by decide +kernel
theorem dX7_decodeTwo_42 : decode cX7_decodeTwo 42 = .ok (.getfield 40, 3) := by decide +kernel
theorem dX7_decodeTwo_45 : decode cX7_decodeTwo 45 = .ok (.invokespecial 210, 3) := by decide +kernel
theorem dX7_decodeTwo_48 : decode cX7_decodeTwo 48 = .ok (.astore 5, 2) := by decide +kernel
theorem dX7_decodeTwo_50 : decode cX7_decodeTwo 50 = .ok (.iconst 1, 1) := by decide +kernel
theorem dX7_decodeTwo_51 : decode cX7_decodeTwo 51 = .ok (.istore 6, 2) := by decide +kernel
theorem dX7_decodeTwo_53 : decode cX7_decodeTwo 53 = .ok (.iload 6, 2) := by decide +kernel
theorem dX7_decodeTwo_55 : decode cX7_decodeTwo 55 = .ok (.aload 4, 2) := by decide +kernel
theorem dX7_decodeTwo_57 : decode cX7_decodeTwo 57 = .ok (.getfield 155, 3) := by decide +kernel
theorem dX7_decodeTwo_60 : decode cX7_decodeTwo 60 = .ok (.if_icmp .ge 99, 3) := by decide +kernel
theorem dX7_decodeTwo_63 : decode cX7_decodeTwo 63 = .ok (.aload 4, 2) := by decide +kernel
theorem dX7_decodeTwo_65 : decode cX7_decodeTwo 65 = .ok (.iload_n 2, 1) := by decide +kernel
theorem dX7_decodeTwo_66 : decode cX7_decodeTwo 66 = .ok (.iload 6, 2) := by decide +kernel
theorem dX7_decodeTwo_68 : decode cX7_decodeTwo 68 = .ok (.invokevirtual 213, 3) := by decide +kernel
theorem dX7_decodeTwo_71 : decode cX7_decodeTwo 71 = .ok (.ifCond .eq 21, 3) := by decide +kernel
theorem dX7_decodeTwo_74 : decode cX7_decodeTwo 74 = .ok (.aload 5, 2) := by decide +kernel
theorem dX7_decodeTwo_76 : decode cX7_decodeTwo 76 = .ok (.aload 4, 2) := by decide +kernel
theorem dX7_decodeTwo_78 : decode cX7_decodeTwo 78 = .ok (.iload_n 3, 1) := by decide +kernel
theorem dX7_decodeTwo_79 : decode cX7_decodeTwo 79 = .ok (.iload 6, 2) := by decide +kernel
theorem dX7_decodeTwo_81 : decode cX7_decodeTwo 81 = .ok (.invokevirtual 216, 3) := by decide +kernel
theorem dX7_decodeTwo_84 : decode cX7_decodeTwo 84 = .ok (.iload 6, 2) := by decide +kernel
theorem dX7_decodeTwo_86 : decode cX7_decodeTwo 86 = .ok (.invokevirtual 218, 3) := by decide +kernel
theorem dX7_decodeTwo_89 : decode cX7_decodeTwo 89 = .ok (.goto 64, 3) := by decide +kernel
theorem dX7_decodeTwo_92 : decode cX7_decodeTwo 92 = .ok (.aload 4, 2) := by decide +kernel
theorem dX7_decodeTwo_94 : decode cX7_decodeTwo 94 = .ok (.iload_n 2, 1) := by decide +kernel
theorem dX7_decodeTwo_95 : decode cX7_decodeTwo 95 = .ok (.iload 6, 2) := by decide +kernel
theorem dX7_decodeTwo_97 : decode cX7_decodeTwo 97 = .ok (.invokevirtual 216, 3) := by decide +kernel
theorem dX7_decodeTwo_100 : decode cX7_decodeTwo 100 = .ok (.ifCond .eq 24, 3) := by decide +kernel
theorem dX7_decodeTwo_103 : decode cX7_decodeTwo 103 = .ok (.aload 4, 2) := by decide +kernel
theorem dX7_decodeTwo_105 : decode cX7_decodeTwo 105 = .ok (.iload_n 3, 1) := by decide +kernel
theorem dX7_decodeTwo_106 : decode cX7_decodeTwo 106 = .ok (.iload 6, 2) := by decide +kernel
theorem dX7_decodeTwo_108 : decode cX7_decodeTwo 108 = .ok (.invokevirtual 201, 3) := by decide +kernel
theorem dX7_decodeTwo_111 : decode cX7_decodeTwo 111 = .ok (.ifCond .eq 13, 3) := by decide +kernel
theorem dX7_decodeTwo_114 : decode cX7_decodeTwo 114 = .ok (.aload 5, 2) := by decide +kernel
theorem dX7_decodeTwo_116 : decode cX7_decodeTwo 116 = .ok (.iload 6, 2) := by decide +kernel
theorem dX7_decodeTwo_118 : decode cX7_decodeTwo 118 = .ok (.invokevirtual 221, 3) := by decide +kernel
theorem dX7_decodeTwo_121 : decode cX7_decodeTwo 121 = .ok (.goto 32, 3) := by decide +kernel
theorem dX7_decodeTwo_124 : decode cX7_decodeTwo 124 = .ok (.aload 4, 2) := by decide +kernel
theorem dX7_decodeTwo_126 : decode cX7_decodeTwo 126 = .ok (.iload_n 2, 1) := by decide +kernel
theorem dX7_decodeTwo_127 : decode cX7_decodeTwo 127 = .ok (.iload 6, 2) := by decide +kernel
theorem dX7_decodeTwo_129 : decode cX7_decodeTwo 129 = .ok (.invokevirtual 216, 3) := by decide +kernel
theorem dX7_decodeTwo_132 : decode cX7_decodeTwo 132 = .ok (.ifCond .eq 21, 3) := by decide +kernel
theorem dX7_decodeTwo_135 : decode cX7_decodeTwo 135 = .ok (.aload 4, 2) := by decide +kernel
theorem dX7_decodeTwo_137 : decode cX7_decodeTwo 137 = .ok (.iload_n 3, 1) := by decide +kernel
theorem dX7_decodeTwo_138 : decode cX7_decodeTwo 138 = .ok (.iload 6, 2) := by decide +kernel
theorem dX7_decodeTwo_140 : decode cX7_decodeTwo 140 = .ok (.invokevirtual 213, 3) := by decide +kernel
theorem dX7_decodeTwo_143 : decode cX7_decodeTwo 143 = .ok (.ifCond .eq 10, 3) := by decide +kernel
theorem dX7_decodeTwo_146 : decode cX7_decodeTwo 146 = .ok (.aload 5, 2) := by decide +kernel
theorem dX7_decodeTwo_148 : decode cX7_decodeTwo 148 = .ok (.iload 6, 2) := by decide +kernel
theorem dX7_decodeTwo_150 : decode cX7_decodeTwo 150 = .ok (.invokevirtual 224, 3) := by decide +kernel
theorem dX7_decodeTwo_153 : decode cX7_decodeTwo 153 = .ok (.iinc 6 1, 3) := by decide +kernel
theorem dX7_decodeTwo_156 : decode cX7_decodeTwo 156 = .ok (.goto (-103), 3) := by decide +kernel
theorem dX7_decodeTwo_159 : decode cX7_decodeTwo 159 = .ok (.aload_n 0, 1) := by decide +kernel
theorem dX7_decodeTwo_160 : decode cX7_decodeTwo 160 = .ok (.getfield 33, 3) := by decide +kernel
theorem dX7_decodeTwo_163 : decode cX7_decodeTwo 163 = .ok (.getfield 200, 3) := by decide +kernel
theorem dX7_decodeTwo_166 : decode cX7_decodeTwo 166 = .ok (.ireturn, 1) := by decide +kernel
theorem dX7_decodeFour_0 : decode cX7_decodeFour 0 = .ok (.iload_n 1, 1) := by decide +kernel
theorem dX7_decodeFour_1 : decode cX7_decodeFour 1 = .ok (.invokestatic 141, 3) := by decide +kernel
theorem dX7_decodeFour_4 : decode cX7_decodeFour 4 = .ok (.iload_n 2, 1) := by decide +kernel
theorem dX7_decodeFour_5 : decode cX7_decodeFour 5 = .ok (.invokestatic 51, 3) := by decide +kernel
theorem dX7_decodeFour_8 : decode cX7_decodeFour 8 = .ok (.iload_n 3, 1) := by decide +kernel
theorem dX7_decodeFour_9 : decode cX7_decodeFour 9 = .ok (.invokestatic 51, 3) := by decide +kernel
theorem dX7_decodeFour_12 : decode cX7_decodeFour 12 = .ok (.iload 4, 2) := by decide +kernel
theorem dX7_decodeFour_14 : decode cX7_decodeFour 14 = .ok (.invokestatic 51, 3) := by decide +kernel
theorem dX7_decodeFour_17 : decode cX7_decodeFour 17 = .ok (.iload_n 2, 1) := by decide +kernel
theorem dX7_decodeFour_18 : decode cX7_decodeFour 18 = .ok (.iload_n 3, 1) := by decide +kernel
theorem dX7_decodeFour_19 : decode cX7_decodeFour 19 = .ok (.iload 4, 2) := by decide +kernel
theorem dX7_decodeFour_21 : decode cX7_decodeFour 21 = .ok (.invokestatic 126, 3) := by decide +kernel
theorem dX7_decodeFour_24 : decode cX7_decodeFour 24 = .ok (.iload 5, 2) := by decide +kernel
theorem dX7_decodeFour_26 : decode cX7_decodeFour 26 = .ok (.iconst 0, 1) := by decide +kernel
theorem dX7_decodeFour_27 : decode cX7_decodeFour 27 = .ok (.iconst 3, 1) := by decide +kernel
theorem dX7_decodeFour_28 : decode cX7_decodeFour 28 = .ok (.invokestatic 58, 3) := by decide +kernel
theorem dX7_decodeFour_31 : decode cX7_decodeFour 31 = .ok (.aload_n 0, 1) := by decide +kernel
theorem dX7_decodeFour_32 : decode cX7_decodeFour 32 = .ok (.getfield 33, 3) := by decide +kernel
theorem dX7_decodeFour_35 : decode cX7_decodeFour 35 = .ok (.iconst 0, 1) := by decide +kernel
theorem dX7_decodeFour_36 : decode cX7_decodeFour 36 = .ok (.putfield 200, 3) := by decide +kernel
theorem dX7_decodeFour_39 : decode cX7_decodeFour 39 = .ok (.aload_n 0, 1) := by decide +kernel
theorem dX7_decodeFour_40 : decode cX7_decodeFour 40 = .ok (.getfield 18, 3) := by decide +kernel
theorem dX7_decodeFour_43 : decode cX7_decodeFour 43 = .ok (.iload_n 1, 1) := by decide +kernel
theorem dX7_decodeFour_44 : decode cX7_decodeFour 44 = .ok (.aaload, 1) := by decide +kernel
theorem dX7_decodeFour_45 : decode cX7_decodeFour 45 = .ok (.astore 6, 2) := by decide +kernel
theorem dX7_decodeFour_47 : decode cX7_decodeFour 47 = .ok (.iload 5, 2) := by decide +kernel
theorem dX7_decodeFour_49 : decode cX7_decodeFour 49 = .ok (.ifCond .eq 9, 3) := by decide +kernel
theorem dX7_decodeFour_52 : decode cX7_decodeFour 52 = .ok (.iload 5, 2) := by decide +kernel
theorem dX7_decodeFour_54 : decode cX7_decodeFour 54 = .ok (.iconst 3, 1) := by decide +kernel
theorem dX7_decodeFour_55 : decode cX7_decodeFour 55 = .ok (.if_icmp .ne 7, 3) := by decide +kernel
theorem dX7_decodeFour_58 : decode cX7_decodeFour 58 = .ok (.iconst 1, 1) := by decide +kernel
theorem dX7_decodeFour_59 : decode cX7_decodeFour 59 = .ok (.goto 4, 3) := by decide +kernel
theorem dX7_decodeFour_62 : decode cX7_decodeFour 62 = .ok (.iconst 0, 1) := by decide +kernel
theorem dX7_decodeFour_63 : decode cX7_decodeFour 63 = .ok (.istore 7, 2) := by decide +kernel
theorem dX7_decodeFour_65 : decode cX7_decodeFour 65 = .ok (.new 227, 3) := by decide +kernel
theorem dX7_decodeFour_68 : decode cX7_decodeFour 68 = .ok (.dup, 1) := by decide +kernel
theorem dX7_decodeFour_69 : decode cX7_decodeFour 69 = .ok (.aload_n 0, 1) := by decide +kernel
theorem dX7_decodeFour_70 : decode cX7_decodeFour 70 = .ok (.getfield 33, 3) := by decide +kernel
theorem dX7_decodeFour_73 : decode cX7_decodeFour 73 = .ok (.invokespecial 229, 3) := by decide +kernel
theorem dX7_decodeFour_76 : decode cX7_decodeFour 76 = .ok (.astore 8, 2) := by decide +kernel
theorem dX7_decodeFour_78 : decode cX7_decodeFour 78 = .ok (.iconst 1, 1) := by decide +kernel
theorem dX7_decodeFour_79 : decode cX7_decodeFour 79 = .ok (.istore 9, 2) := by decide +kernel
theorem dX7_decodeFour_81 : decode cX7_decodeFour 81 = .ok (.iload 9, 2) := by decide +kernel
theorem dX7_decodeFour_83 : decode cX7_decodeFour 83 = .ok (.aload 6, 2) := by decide +kernel
theorem dX7_decodeFour_85 : decode cX7_decodeFour 85 = .ok (.getfield 155, 3) := by decide +kernel
theorem dX7_decodeFour_88 : decode cX7_decodeFour 88 = .ok (.if_icmp .ge 102, 3) := by decide +kernel
theorem dX7_decodeFour_91 : decode cX7_decodeFour 91 = .ok (.aload 6, 2) := by decide +kernel
theorem dX7_decodeFour_93 : decode cX7_decodeFour 93 = .ok (.iload 4, 2) := by decide +kernel
theorem dX7_decodeFour_95 : decode cX7_decodeFour 95 = .ok (.iload 9, 2) := by decide +kernel
theorem dX7_decodeFour_97 : decode cX7_decodeFour 97 = .ok (.invokevirtual 213, 3) := by decide +kernel
theorem dX7_decodeFour_100 : decode cX7_decodeFour 100 = .ok (.ifCond .eq 13, 3) := by decide +kernel
theorem dX7_decodeFour_103 : decode cX7_decodeFour 103 = .ok (.aload 8, 2) := by decide +kernel
theorem dX7_decodeFour_105 : decode cX7_decodeFour 105 = .ok (.iload 9, 2) := by decide +kernel
theorem dX7_decodeFour_107 : decode cX7_decodeFour 107 = .ok (.invokevirtual 232, 3) := by decide +kernel
theorem dX7_decodeFour_110 : decode cX7_decodeFour 110 = .ok (.goto 74, 3) := by decide +kernel
theorem dX7_decodeFour_113 : decode cX7_decodeFour 113 = .ok (.aload 6, 2) := by decide +kernel
theorem dX7_decodeFour_115 : decode cX7_decodeFour 115 = .ok (.iload 4, 2) := by decide +kernel
theorem dX7_decodeFour_117 : decode cX7_decodeFour 117 = .ok (.iload 9, 2) := by decide +kernel
theorem dX7_decodeFour_119 : decode cX7_decodeFour 119 = .ok (.invokevirtual 216, 3) := by decide +kernel
theorem dX7_decodeFour_122 : decode cX7_decodeFour 122 = .ok (.ifCond .ne 62, 3) := by decide +kernel
theorem dX7_decodeFour_125 : decode cX7_decodeFour 125 = .ok (.aload 6, 2) := by decide +kernel
theorem dX7_decodeFour_127 : decode cX7_decodeFour 127 = .ok (.iload 4, 2) := by decide +kernel
theorem dX7_decodeFour_129 : decode cX7_decodeFour 129 = .ok (.iload 9, 2) := by decide +kernel
theorem dX7_decodeFour_131 : decode cX7_decodeFour 131 = .ok (.iconst 1, 1) := by decide +kernel
theorem dX7_decodeFour_132 : decode cX7_decodeFour 132 = .ok (.isub, 1) := by decide +kernel
theorem dX7_decodeFour_133 : decode cX7_decodeFour 133 = .ok (.invokevirtual 216, 3) := by decide +kernel
theorem dX7_decodeFour_136 : decode cX7_decodeFour 136 = .ok (.ifCond .ne 48, 3) := by decide +kernel
theorem dX7_decodeFour_139 : decode cX7_decodeFour 139 = .ok (.iload 7, 2) := by decide +kernel
theorem dX7_decodeFour_141 : decode cX7_decodeFour 141 = .ok (.ifCond .eq 17, 3) := by decide +kernel
theorem dX7_decodeFour_144 : decode cX7_decodeFour 144 = .ok (.aload 6, 2) := by decide +kernel
theorem dX7_decodeFour_146 : decode cX7_decodeFour 146 = .ok (.iload_n 2, 1) := by decide +kernel
theorem dX7_decodeFour_147 : decode cX7_decodeFour 147 = .ok (.iload 9, 2) := by decide +kernel
theorem dX7_decodeFour_149 : decode cX7_decodeFour 149 = .ok (.invokevirtual 213, 3) := by decide +kernel
theorem dX7_decodeFour_152 : decode cX7_decodeFour 152 = .ok (.ifCond .eq 32, 3) := by decide +kernel
theorem dX7_decodeFour_155 : decode cX7_decodeFour 155 = .ok (.goto 14, 3) := by decide +kernel
theorem dX7_decodeFour_158 : decode cX7_decodeFour 158 = .ok (.aload 6, 2) := by decide +kernel
theorem dX7_decodeFour_160 : decode cX7_decodeFour 160 = .ok (.iload_n 2, 1) := by decide +kernel
theorem dX7_decodeFour_161 : decode cX7_decodeFour 161 = .ok (.iload 9, 2) := by decide +kernel
theorem dX7_decodeFour_163 : decode cX7_decodeFour 163 = .ok (.invokevirtual 201, 3) := by decide +kernel
theorem dX7_decodeFour_166 : decode cX7_decodeFour 166 = .ok (.ifCond .eq 18, 3) := by decide +kernel
theorem dX7_decodeFour_169 : decode cX7_decodeFour 169 = .ok (.aload 8, 2) := by decide +kernel
theorem dX7_decodeFour_171 : decode cX7_decodeFour 171 = .ok (.aload 6, 2) := by decide +kernel
theorem dX7_decodeFour_173 : decode cX7_decodeFour 173 = .ok (.iload_n 3, 1) := by decide +kernel
theorem dX7_decodeFour_174 : decode cX7_decodeFour 174 = .ok (.iload 9, 2) := by decide +kernel
theorem dX7_decodeFour_176 : decode cX7_decodeFour 176 = .ok (.invokevirtual 216, 3) := by decide +kernel
theorem dX7_decodeFour_179 : decode cX7_decodeFour 179 = .ok (.iload 9, 2) := by decide +kernel
theorem dX7_decodeFour_181 : decode cX7_decodeFour 181 = .ok (.invokevirtual 235, 3) := by decide +kernel
theorem dX7_decodeFour_184 : decode cX7_decodeFour 184 = .ok (.iinc 9 1, 3) := by decide +kernel
theorem dX7_decodeFour_187 : decode cX7_decodeFour 187 = .ok (.goto (-106), 3) := by decide +kernel
theorem dX7_decodeFour_190 : decode cX7_decodeFour 190 = .ok (.aload_n 0, 1) := by decide +kernel
theorem dX7_decodeFour_191 : decode cX7_decodeFour 191 = .ok (.getfield 33, 3) := by decide +kernel
theorem dX7_decodeFour_194 : decode cX7_decodeFour 194 = .ok (.getfield 200, 3) := by decide +kernel
theorem dX7_decodeFour_197 : decode cX7_decodeFour 197 = .ok (.ireturn, 1) := by decide +kernel
theorem dX7_notes_0 : decode cX7_notes 0 = .ok (.aload_n 0, 1) := by decide +kernel
theorem dX7_notes_1 : decode cX7_notes 1 = .ok (.getfield 33, 3) := by decide +kernel
theorem dX7_notes_4 : decode cX7_notes 4 = .ok (.getfield 200, 3) := by decide +kernel
theorem dX7_notes_7 : decode cX7_notes 7 = .ok (.ireturn, 1) := by decide +kernel
theorem dX7_kind_0 : decode cX7_kind 0 = .ok (.aload_n 0, 1) := by decide +kernel
theorem dX7_kind_1 : decode cX7_kind 1 = .ok (.iload_n 1, 1) := by decide +kernel
theorem dX7_kind_2 : decode cX7_kind 2 = .ok (.invokevirtual 236, 3) := by decide +kernel
theorem dX7_kind_5 : decode cX7_kind 5 = .ok (.aload_n 0, 1) := by decide +kernel
theorem dX7_kind_6 : decode cX7_kind 6 = .ok (.getfield 33, 3) := by decide +kernel
theorem dX7_kind_9 : decode cX7_kind 9 = .ok (.getfield 239, 3) := by decide +kernel
theorem dX7_kind_12 : decode cX7_kind 12 = .ok (.iload_n 1, 1) := by decide +kernel
theorem dX7_kind_13 : decode cX7_kind 13 = .ok (.caload, 1) := by decide +kernel
theorem dX7_kind_14 : decode cX7_kind 14 = .ok (.ireturn, 1) := by decide +kernel
theorem dX7_begin_0 : decode cX7_begin 0 = .ok (.aload_n 0, 1) := by decide +kernel
theorem dX7_begin_1 : decode cX7_begin 1 = .ok (.iload_n 1, 1) := by decide +kernel
theorem dX7_begin_2 : decode cX7_begin 2 = .ok (.invokevirtual 236, 3) := by decide +kernel
theorem dX7_begin_5 : decode cX7_begin 5 = .ok (.aload_n 0, 1) := by decide +kernel
theorem dX7_begin_6 : decode cX7_begin 6 = .ok (.getfield 33, 3) := by decide +kernel
theorem dX7_begin_9 : decode cX7_begin 9 = .ok (.getfield 243, 3) := by decide +kernel
theorem dX7_begin_12 : decode cX7_begin 12 = .ok (.iload_n 1, 1) := by decide +kernel
theorem dX7_begin_13 : decode cX7_begin 13 = .ok (.iaload, 1) := by decide +kernel
theorem dX7_begin_14 : decode cX7_begin 14 = .ok (.ireturn, 1) := by decide +kernel
theorem dX7_end_0 : decode cX7_end 0 = .ok (.aload_n 0, 1) := by decide +kernel
theorem dX7_end_1 : decode cX7_end 1 = .ok (.iload_n 1, 1) := by decide +kernel
theorem dX7_end_2 : decode cX7_end 2 = .ok (.invokevirtual 236, 3) := by decide +kernel
theorem dX7_end_5 : decode cX7_end 5 = .ok (.aload_n 0, 1) := by decide +kernel
theorem dX7_end_6 : decode cX7_end 6 = .ok (.getfield 33, 3) := by decide +kernel
theorem dX7_end_9 : decode cX7_end 9 = .ok (.getfield 247, 3) := by decide +kernel
theorem dX7_end_12 : decode cX7_end 12 = .ok (.iload_n 1, 1) := by decide +kernel
theorem dX7_end_13 : decode cX7_end 13 = .ok (.iaload, 1) := by decide +kernel
theorem dX7_end_14 : decode cX7_end 14 = .ok (.ireturn, 1) := by decide +kernel
theorem dX7_value_0 : decode cX7_value 0 = .ok (.aload_n 0, 1) := by decide +kernel
theorem dX7_value_1 : decode cX7_value 1 = .ok (.iload_n 1, 1) := by decide +kernel
theorem dX7_value_2 : decode cX7_value 2 = .ok (.invokevirtual 236, 3) := by decide +kernel
theorem dX7_value_5 : decode cX7_value 5 = .ok (.aload_n 0, 1) := by decide +kernel
theorem dX7_value_6 : decode cX7_value 6 = .ok (.getfield 33, 3) := by decide +kernel
theorem dX7_value_9 : decode cX7_value 9 = .ok (.getfield 250, 3) := by decide +kernel
theorem dX7_value_12 : decode cX7_value 12 = .ok (.iload_n 1, 1) := by decide +kernel
theorem dX7_value_13 : decode cX7_value 13 = .ok (.iaload, 1) := by decide +kernel
theorem dX7_value_14 : decode cX7_value 14 = .ok (.ireturn, 1) := by decide +kernel
theorem dX7_fault_0 : decode cX7_fault 0 = .ok (.aload_n 0, 1) := by decide +kernel
theorem dX7_fault_1 : decode cX7_fault 1 = .ok (.iload_n 1, 1) := by decide +kernel
theorem dX7_fault_2 : decode cX7_fault 2 = .ok (.invokevirtual 236, 3) := by decide +kernel
theorem dX7_fault_5 : decode cX7_fault 5 = .ok (.aload_n 0, 1) := by decide +kernel
theorem dX7_fault_6 : decode cX7_fault 6 = .ok (.getfield 33, 3) := by decide +kernel
theorem dX7_fault_9 : decode cX7_fault 9 = .ok (.getfield 253, 3) := by decide +kernel
theorem dX7_fault_12 : decode cX7_fault 12 = .ok (.iload_n 1, 1) := by decide +kernel
theorem dX7_fault_13 : decode cX7_fault 13 = .ok (.caload, 1) := by decide +kernel
theorem dX7_fault_14 : decode cX7_fault 14 = .ok (.ireturn, 1) := by decide +kernel
theorem dX7_rate_0 : decode cX7_rate 0 = .ok (.bipush 10, 2) := by decide +kernel
theorem dX7_rate_2 : decode cX7_rate 2 = .ok (.aload_n 0, 1) := by decide +kernel
theorem dX7_rate_3 : decode cX7_rate 3 = .ok (.iload_n 1, 1) := by decide +kernel
theorem dX7_rate_4 : decode cX7_rate 4 = .ok (.iload_n 2, 1) := by decide +kernel
theorem dX7_rate_5 : decode cX7_rate 5 = .ok (.invokevirtual 172, 3) := by decide +kernel
theorem dX7_rate_8 : decode cX7_rate 8 = .ok (.imul, 1) := by decide +kernel
theorem dX7_rate_9 : decode cX7_rate 9 = .ok (.ireturn, 1) := by decide +kernel
theorem dX7_register_0 : decode cX7_register 0 = .ok (.iload_n 1, 1) := by decide +kernel
theorem dX7_register_1 : decode cX7_register 1 = .ok (.iconst 0, 1) := by decide +kernel
theorem dX7_register_2 : decode cX7_register 2 = .ok (.bipush 127, 2) := by decide +kernel
theorem dX7_register_4 : decode cX7_register 4 = .ok (.invokestatic 58, 3) := by decide +kernel
theorem dX7_register_7 : decode cX7_register 7 = .ok (.iload_n 2, 1) := by decide +kernel
theorem dX7_register_8 : decode cX7_register 8 = .ok (.iconst 0, 1) := by decide +kernel
theorem dX7_register_9 : decode cX7_register 9 = .ok (.bipush 15, 2) := by decide +kernel
theorem dX7_register_11 : decode cX7_register 11 = .ok (.invokestatic 58, 3) := by decide +kernel
theorem dX7_register_14 : decode cX7_register 14 = .ok (.aload_n 0, 1) := by decide +kernel
theorem dX7_register_15 : decode cX7_register 15 = .ok (.getfield 40, 3) := by decide +kernel
theorem dX7_register_18 : decode cX7_register 18 = .ok (.iload_n 1, 1) := by decide +kernel
theorem dX7_register_19 : decode cX7_register 19 = .ok (.iload_n 2, 1) := by decide +kernel
theorem dX7_register_20 : decode cX7_register 20 = .ok (.invokevirtual 256, 3) := by decide +kernel
theorem dX7_register_23 : decode cX7_register 23 = .ok (.ireturn, 1) := by decide +kernel
theorem dX7_follows_0 : decode cX7_follows 0 = .ok (.iload_n 1, 1) := by decide +kernel
theorem dX7_follows_1 : decode cX7_follows 1 = .ok (.iconst 0, 1) := by decide +kernel
theorem dX7_follows_2 : decode cX7_follows 2 = .ok (.sipush 255, 3) := by decide +kernel
theorem dX7_follows_5 : decode cX7_follows 5 = .ok (.invokestatic 58, 3) := by decide +kernel
theorem dX7_follows_8 : decode cX7_follows 8 = .ok (.iload_n 2, 1) := by decide +kernel
theorem dX7_follows_9 : decode cX7_follows 9 = .ok (.iconst 0, 1) := by decide +kernel
theorem dX7_follows_10 : decode cX7_follows 10 = .ok (.sipush 255, 3) := by decide +kernel
theorem dX7_follows_13 : decode cX7_follows 13 = .ok (.invokestatic 58, 3) := by decide +kernel
theorem dX7_follows_16 : decode cX7_follows 16 = .ok (.aload_n 0, 1) := by decide +kernel
theorem dX7_follows_17 : decode cX7_follows 17 = .ok (.getfield 33, 3) := by decide +kernel
theorem dX7_follows_20 : decode cX7_follows 20 = .ok (.iload_n 1, 1) := by decide +kernel
theorem dX7_follows_21 : decode cX7_follows 21 = .ok (.iload_n 2, 1) := by decide +kernel
theorem dX7_follows_22 : decode cX7_follows 22 = .ok (.invokevirtual 259, 3) := by decide +kernel
theorem dX7_follows_25 : decode cX7_follows 25 = .ok (.ireturn, 1) := by decide +kernel
theorem dX7_alike_0 : decode cX7_alike 0 = .ok (.iload_n 1, 1) := by decide +kernel
theorem dX7_alike_1 : decode cX7_alike 1 = .ok (.sipush (-399), 3) := by decide +kernel
theorem dX7_alike_4 : decode cX7_alike 4 = .ok (.sipush 399, 3) := by decide +kernel
theorem dX7_alike_7 : decode cX7_alike 7 = .ok (.invokestatic 58, 3) := by decide +kernel
theorem dX7_alike_10 : decode cX7_alike 10 = .ok (.aload_n 0, 1) := by decide +kernel
theorem dX7_alike_11 : decode cX7_alike 11 = .ok (.iload_n 1, 1) := by decide +kernel
theorem dX7_alike_12 : decode cX7_alike 12 = .ok (.invokevirtual 262, 3) := by decide +kernel
theorem dX7_alike_15 : decode cX7_alike 15 = .ok (.ireturn, 1) := by decide +kernel
theorem dX7_differs_0 : decode cX7_differs 0 = .ok (.iload_n 1, 1) := by decide +kernel
theorem dX7_differs_1 : decode cX7_differs 1 = .ok (.sipush (-399), 3) := by decide +kernel
theorem dX7_differs_4 : decode cX7_differs 4 = .ok (.sipush 399, 3) := by decide +kernel
theorem dX7_differs_7 : decode cX7_differs 7 = .ok (.invokestatic 58, 3) := by decide +kernel
theorem dX7_differs_10 : decode cX7_differs 10 = .ok (.aload_n 0, 1) := by decide +kernel
theorem dX7_differs_11 : decode cX7_differs 11 = .ok (.iload_n 1, 1) := by decide +kernel
theorem dX7_differs_12 : decode cX7_differs 12 = .ok (.invokevirtual 265, 3) := by decide +kernel
theorem dX7_differs_15 : decode cX7_differs 15 = .ok (.istore_n 2, 1) := by decide +kernel
theorem dX7_differs_16 : decode cX7_differs 16 = .ok (.iload_n 2, 1) := by decide +kernel
theorem dX7_differs_17 : decode cX7_differs 17 = .ok (.ifCond .lt 7, 3) := by decide +kernel
theorem dX7_differs_20 : decode cX7_differs 20 = .ok (.iconst 1, 1) := by decide +kernel
theorem dX7_differs_21 : decode cX7_differs 21 = .ok (.goto 4, 3) := by decide +kernel
theorem dX7_differs_24 : decode cX7_differs 24 = .ok (.iconst 0, 1) := by decide +kernel
theorem dX7_differs_25 : decode cX7_differs 25 = .ok (.invokestatic 159, 3) := by decide +kernel
theorem dX7_differs_28 : decode cX7_differs 28 = .ok (.iload_n 2, 1) := by decide +kernel
theorem dX7_differs_29 : decode cX7_differs 29 = .ok (.ireturn, 1) := by decide +kernel
theorem dX7_best_0 : decode cX7_best 0 = .ok (.iload_n 1, 1) := by decide +kernel
theorem dX7_best_1 : decode cX7_best 1 = .ok (.iconst 0, 1) := by decide +kernel
theorem dX7_best_2 : decode cX7_best 2 = .ok (.bipush 99, 2) := by decide +kernel
theorem dX7_best_4 : decode cX7_best 4 = .ok (.invokestatic 58, 3) := by decide +kernel
theorem dX7_best_7 : decode cX7_best 7 = .ok (.aload_n 0, 1) := by decide +kernel
theorem dX7_best_8 : decode cX7_best 8 = .ok (.getfield 18, 3) := by decide +kernel
theorem dX7_best_11 : decode cX7_best 11 = .ok (.iconst 0, 1) := by decide +kernel
theorem dX7_best_12 : decode cX7_best 12 = .ok (.aaload, 1) := by decide +kernel
theorem dX7_best_13 : decode cX7_best 13 = .ok (.getfield 155, 3) := by decide +kernel
theorem dX7_best_16 : decode cX7_best 16 = .ok (.ifCond .le 19, 3) := by decide +kernel
theorem dX7_best_19 : decode cX7_best 19 = .ok (.aload_n 0, 1) := by decide +kernel
theorem dX7_best_20 : decode cX7_best 20 = .ok (.getfield 18, 3) := by decide +kernel
theorem dX7_best_23 : decode cX7_best 23 = .ok (.iconst 1, 1) := by decide +kernel
theorem dX7_best_24 : decode cX7_best 24 = .ok (.aaload, 1) := by decide +kernel
theorem dX7_best_25 : decode cX7_best 25 = .ok (.getfield 155, 3) := by decide +kernel
theorem dX7_best_28 : decode cX7_best 28 = .ok (.ifCond .le 7, 3) := by decide +kernel
theorem dX7_best_31 : decode cX7_best 31 = .ok (.iconst 1, 1) := by decide +kernel
theorem dX7_best_32 : decode cX7_best 32 = .ok (.goto 4, 3) := by decide +kernel
theorem dX7_best_35 : decode cX7_best 35 = .ok (.iconst 0, 1) := by decide +kernel
theorem dX7_best_36 : decode cX7_best 36 = .ok (.invokestatic 193, 3) := by decide +kernel
theorem dX7_best_39 : decode cX7_best 39 = .ok (.iconst 0, 1) := by decide +kernel
theorem dX7_best_40 : decode cX7_best 40 = .ok (.istore_n 2, 1) := by decide +kernel
theorem dX7_best_41 : decode cX7_best 41 = .ok (.aload_n 0, 1) := by decide +kernel
theorem dX7_best_42 : decode cX7_best 42 = .ok (.iconst 0, 1) := by decide +kernel
theorem dX7_best_43 : decode cX7_best 43 = .ok (.invokevirtual 262, 3) := by decide +kernel
theorem dX7_best_46 : decode cX7_best 46 = .ok (.istore_n 3, 1) := by decide +kernel
theorem dX7_best_47 : decode cX7_best 47 = .ok (.iconst 1, 1) := by decide +kernel
theorem dX7_best_48 : decode cX7_best 48 = .ok (.istore 4, 2) := by decide +kernel
theorem dX7_best_50 : decode cX7_best 50 = .ok (.iload 4, 2) := by decide +kernel
theorem dX7_best_52 : decode cX7_best 52 = .ok (.iload_n 1, 1) := by decide +kernel
theorem dX7_best_53 : decode cX7_best 53 = .ok (.if_icmp .gt 51, 3) := by decide +kernel
theorem dX7_best_56 : decode cX7_best 56 = .ok (.aload_n 0, 1) := by decide +kernel
theorem dX7_best_57 : decode cX7_best 57 = .ok (.iload 4, 2) := by decide +kernel
theorem dX7_best_59 : decode cX7_best 59 = .ok (.ineg, 1) := by decide +kernel
theorem dX7_best_60 : decode cX7_best 60 = .ok (.invokevirtual 262, 3) := by decide +kernel
theorem dX7_best_63 : decode cX7_best 63 = .ok (.istore 5, 2) := by decide +kernel
theorem dX7_best_65 : decode cX7_best 65 = .ok (.iload 5, 2) := by decide +kernel
theorem dX7_best_67 : decode cX7_best 67 = .ok (.iload_n 3, 1) := by decide +kernel
theorem dX7_best_68 : decode cX7_best 68 = .ok (.if_icmp .le 10, 3) := by decide +kernel
theorem dX7_best_71 : decode cX7_best 71 = .ok (.iload 5, 2) := by decide +kernel
theorem dX7_best_73 : decode cX7_best 73 = .ok (.istore_n 3, 1) := by decide +kernel
theorem dX7_best_74 : decode cX7_best 74 = .ok (.iload 4, 2) := by decide +kernel
theorem dX7_best_76 : decode cX7_best 76 = .ok (.ineg, 1) := by decide +kernel
theorem dX7_best_77 : decode cX7_best 77 = .ok (.istore_n 2, 1) := by decide +kernel
theorem dX7_best_78 : decode cX7_best 78 = .ok (.aload_n 0, 1) := by decide +kernel
theorem dX7_best_79 : decode cX7_best 79 = .ok (.iload 4, 2) := by decide +kernel
theorem dX7_best_81 : decode cX7_best 81 = .ok (.invokevirtual 262, 3) := by decide +kernel
theorem dX7_best_84 : decode cX7_best 84 = .ok (.istore 6, 2) := by decide +kernel
theorem dX7_best_86 : decode cX7_best 86 = .ok (.iload 6, 2) := by decide +kernel
theorem dX7_best_88 : decode cX7_best 88 = .ok (.iload_n 3, 1) := by decide +kernel
theorem dX7_best_89 : decode cX7_best 89 = .ok (.if_icmp .le 9, 3) := by decide +kernel
theorem dX7_best_92 : decode cX7_best 92 = .ok (.iload 6, 2) := by decide +kernel
theorem dX7_best_94 : decode cX7_best 94 = .ok (.istore_n 3, 1) := by decide +kernel
theorem dX7_best_95 : decode cX7_best 95 = .ok (.iload 4, 2) := by decide +kernel
theorem dX7_best_97 : decode cX7_best 97 = .ok (.istore_n 2, 1) := by decide +kernel
theorem dX7_best_98 : decode cX7_best 98 = .ok (.iinc 4 1, 3) := by decide +kernel
theorem dX7_best_101 : decode cX7_best 101 = .ok (.goto (-51), 3) := by decide +kernel
theorem dX7_best_104 : decode cX7_best 104 = .ok (.iload_n 2, 1) := by decide +kernel
theorem dX7_best_105 : decode cX7_best 105 = .ok (.ireturn, 1) := by decide +kernel
theorem dX7_flips_0 : decode cX7_flips 0 = .ok (.iconst 0, 1) := by decide +kernel
theorem dX7_flips_1 : decode cX7_flips 1 = .ok (.istore_n 1, 1) := by decide +kernel
theorem dX7_flips_2 : decode cX7_flips 2 = .ok (.iconst 0, 1) := by decide +kernel
theorem dX7_flips_3 : decode cX7_flips 3 = .ok (.istore_n 2, 1) := by decide +kernel
theorem dX7_flips_4 : decode cX7_flips 4 = .ok (.iload_n 2, 1) := by decide +kernel
theorem dX7_flips_5 : decode cX7_flips 5 = .ok (.aload_n 0, 1) := by decide +kernel
theorem dX7_flips_6 : decode cX7_flips 6 = .ok (.getfield 11, 3) := by decide +kernel
theorem dX7_flips_9 : decode cX7_flips 9 = .ok (.arraylength, 1) := by decide +kernel
theorem dX7_flips_10 : decode cX7_flips 10 = .ok (.if_icmp .ge 21, 3) := by decide +kernel
theorem dX7_flips_13 : decode cX7_flips 13 = .ok (.iload_n 1, 1) := by decide +kernel
theorem dX7_flips_14 : decode cX7_flips 14 = .ok (.aload_n 0, 1) := by decide +kernel
theorem dX7_flips_15 : decode cX7_flips 15 = .ok (.getfield 11, 3) := by decide +kernel
theorem dX7_flips_18 : decode cX7_flips 18 = .ok (.iload_n 2, 1) := by decide +kernel
theorem dX7_flips_19 : decode cX7_flips 19 = .ok (.aaload, 1) := by decide +kernel
theorem dX7_flips_20 : decode cX7_flips 20 = .ok (.getfield 79, 3) := by decide +kernel
theorem dX7_flips_23 : decode cX7_flips 23 = .ok (.iadd, 1) := by decide +kernel
theorem dX7_flips_24 : decode cX7_flips 24 = .ok (.istore_n 1, 1) := by decide +kernel
theorem dX7_flips_25 : decode cX7_flips 25 = .ok (.iinc 2 1, 3) := by decide +kernel
theorem dX7_flips_28 : decode cX7_flips 28 = .ok (.goto (-24), 3) := by decide +kernel
theorem dX7_flips_31 : decode cX7_flips 31 = .ok (.iload_n 1, 1) := by decide +kernel
theorem dX7_flips_32 : decode cX7_flips 32 = .ok (.ireturn, 1) := by decide +kernel
theorem dX7_checksum_0 : decode cX7_checksum 0 = .ok (.ldc2_w 268, 3) := by decide +kernel
theorem dX7_checksum_3 : decode cX7_checksum 3 = .ok (.lstore_n 1, 1) := by decide +kernel
theorem dX7_checksum_4 : decode cX7_checksum 4 = .ok (.iconst 0, 1) := by decide +kernel
theorem dX7_checksum_5 : decode cX7_checksum 5 = .ok (.istore_n 3, 1) := by decide +kernel
theorem dX7_checksum_6 : decode cX7_checksum 6 = .ok (.iload_n 3, 1) := by decide +kernel
theorem dX7_checksum_7 : decode cX7_checksum 7 = .ok (.aload_n 0, 1) := by decide +kernel
theorem dX7_checksum_8 : decode cX7_checksum 8 = .ok (.getfield 18, 3) := by decide +kernel
theorem dX7_checksum_11 : decode cX7_checksum 11 = .ok (.arraylength, 1) := by decide +kernel
theorem dX7_checksum_12 : decode cX7_checksum 12 = .ok (.if_icmp .ge 51, 3) := by decide +kernel
theorem dX7_checksum_15 : decode cX7_checksum 15 = .ok (.iconst 0, 1) := by decide +kernel
theorem dX7_checksum_16 : decode cX7_checksum 16 = .ok (.istore 4, 2) := by decide +kernel
theorem dX7_checksum_18 : decode cX7_checksum 18 = .ok (.iload 4, 2) := by decide +kernel
theorem dX7_checksum_20 : decode cX7_checksum 20 = .ok (.aload_n 0, 1) := by decide +kernel
theorem dX7_checksum_21 : decode cX7_checksum 21 = .ok (.getfield 18, 3) := by decide +kernel
theorem dX7_checksum_24 : decode cX7_checksum 24 = .ok (.iload_n 3, 1) := by decide +kernel
theorem dX7_checksum_25 : decode cX7_checksum 25 = .ok (.aaload, 1) := by decide +kernel
theorem dX7_checksum_26 : decode cX7_checksum 26 = .ok (.getfield 155, 3) := by decide +kernel
theorem dX7_checksum_29 : decode cX7_checksum 29 = .ok (.if_icmp .ge 28, 3) := by decide +kernel
theorem dX7_checksum_32 : decode cX7_checksum 32 = .ok (.ldc2_w 270, 3) := by decide +kernel
theorem dX7_checksum_35 : decode cX7_checksum 35 = .ok (.lload_n 1, 1) := by decide +kernel
theorem dX7_checksum_36 : decode cX7_checksum 36 = .ok (.lmul, 1) := by decide +kernel
theorem dX7_checksum_37 : decode cX7_checksum 37 = .ok (.aload_n 0, 1) := by decide +kernel
theorem dX7_checksum_38 : decode cX7_checksum 38 = .ok (.getfield 18, 3) := by decide +kernel
theorem dX7_checksum_41 : decode cX7_checksum 41 = .ok (.iload_n 3, 1) := by decide +kernel
theorem dX7_checksum_42 : decode cX7_checksum 42 = .ok (.aaload, 1) := by decide +kernel
theorem dX7_checksum_43 : decode cX7_checksum 43 = .ok (.iload 4, 2) := by decide +kernel
theorem dX7_checksum_45 : decode cX7_checksum 45 = .ok (.invokevirtual 162, 3) := by decide +kernel
theorem dX7_checksum_48 : decode cX7_checksum 48 = .ok (.i2l, 1) := by decide +kernel
theorem dX7_checksum_49 : decode cX7_checksum 49 = .ok (.ladd, 1) := by decide +kernel
theorem dX7_checksum_50 : decode cX7_checksum 50 = .ok (.lstore_n 1, 1) := by decide +kernel
theorem dX7_checksum_51 : decode cX7_checksum 51 = .ok (.iinc 4 1, 3) := by decide +kernel
theorem dX7_checksum_54 : decode cX7_checksum 54 = .ok (.goto (-36), 3) := by decide +kernel
theorem dX7_checksum_57 : decode cX7_checksum 57 = .ok (.iinc 3 1, 3) := by decide +kernel
theorem dX7_checksum_60 : decode cX7_checksum 60 = .ok (.goto (-54), 3) := by decide +kernel
theorem dX7_checksum_63 : decode cX7_checksum 63 = .ok (.iconst 0, 1) := by decide +kernel
theorem dX7_checksum_64 : decode cX7_checksum 64 = .ok (.istore_n 3, 1) := by decide +kernel
theorem dX7_checksum_65 : decode cX7_checksum 65 = .ok (.iload_n 3, 1) := by decide +kernel
theorem dX7_checksum_66 : decode cX7_checksum 66 = .ok (.aload_n 0, 1) := by decide +kernel
theorem dX7_checksum_67 : decode cX7_checksum 67 = .ok (.getfield 33, 3) := by decide +kernel
theorem dX7_checksum_70 : decode cX7_checksum 70 = .ok (.getfield 200, 3) := by decide +kernel
theorem dX7_checksum_73 : decode cX7_checksum 73 = .ok (.if_icmp .ge 50, 3) := by decide +kernel
theorem dX7_checksum_76 : decode cX7_checksum 76 = .ok (.iload_n 3, 1) := by decide +kernel
theorem dX7_checksum_77 : decode cX7_checksum 77 = .ok (.sipush 200, 3) := by decide +kernel
theorem dX7_checksum_80 : decode cX7_checksum 80 = .ok (.if_icmp .ge 43, 3) := by decide +kernel
theorem dX7_checksum_83 : decode cX7_checksum 83 = .ok (.ldc2_w 270, 3) := by decide +kernel
theorem dX7_checksum_86 : decode cX7_checksum 86 = .ok (.lload_n 1, 1) := by decide +kernel
theorem dX7_checksum_87 : decode cX7_checksum 87 = .ok (.lmul, 1) := by decide +kernel
theorem dX7_checksum_88 : decode cX7_checksum 88 = .ok (.aload_n 0, 1) := by decide +kernel
theorem dX7_checksum_89 : decode cX7_checksum 89 = .ok (.getfield 33, 3) := by decide +kernel
theorem dX7_checksum_92 : decode cX7_checksum 92 = .ok (.getfield 239, 3) := by decide +kernel
theorem dX7_checksum_95 : decode cX7_checksum 95 = .ok (.iload_n 3, 1) := by decide +kernel
theorem dX7_checksum_96 : decode cX7_checksum 96 = .ok (.caload, 1) := by decide +kernel
theorem dX7_checksum_97 : decode cX7_checksum 97 = .ok (.i2l, 1) := by decide +kernel
theorem dX7_checksum_98 : decode cX7_checksum 98 = .ok (.ladd, 1) := by decide +kernel
theorem dX7_checksum_99 : decode cX7_checksum 99 = .ok (.lstore_n 1, 1) := by decide +kernel
theorem dX7_checksum_100 : decode cX7_checksum 100 = .ok (.ldc2_w 270, 3) := by decide +kernel
theorem dX7_checksum_103 : decode cX7_checksum 103 = .ok (.lload_n 1, 1) := by decide +kernel
theorem dX7_checksum_104 : decode cX7_checksum 104 = .ok (.lmul, 1) := by decide +kernel
theorem dX7_checksum_105 : decode cX7_checksum 105 = .ok (.aload_n 0, 1) := by decide +kernel
theorem dX7_checksum_106 : decode cX7_checksum 106 = .ok (.getfield 33, 3) := by decide +kernel
theorem dX7_checksum_109 : decode cX7_checksum 109 = .ok (.getfield 250, 3) := by decide +kernel
theorem dX7_checksum_112 : decode cX7_checksum 112 = .ok (.iload_n 3, 1) := by decide +kernel
theorem dX7_checksum_113 : decode cX7_checksum 113 = .ok (.iaload, 1) := by decide +kernel
theorem dX7_checksum_114 : decode cX7_checksum 114 = .ok (.i2l, 1) := by decide +kernel
theorem dX7_checksum_115 : decode cX7_checksum 115 = .ok (.ladd, 1) := by decide +kernel
theorem dX7_checksum_116 : decode cX7_checksum 116 = .ok (.lstore_n 1, 1) := by decide +kernel
theorem dX7_checksum_117 : decode cX7_checksum 117 = .ok (.iinc 3 1, 3) := by decide +kernel
theorem dX7_checksum_120 : decode cX7_checksum 120 = .ok (.goto (-55), 3) := by decide +kernel
theorem dX7_checksum_123 : decode cX7_checksum 123 = .ok (.lload_n 1, 1) := by decide +kernel
theorem dX7_checksum_124 : decode cX7_checksum 124 = .ok (.lreturn, 1) := by decide +kernel
theorem dX7_highShare_0 : decode cX7_highShare 0 = .ok (.iload_n 1, 1) := by decide +kernel
theorem dX7_highShare_1 : decode cX7_highShare 1 = .ok (.invokestatic 141, 3) := by decide +kernel
theorem dX7_highShare_4 : decode cX7_highShare 4 = .ok (.iload_n 2, 1) := by decide +kernel
theorem dX7_highShare_5 : decode cX7_highShare 5 = .ok (.invokestatic 51, 3) := by decide +kernel
theorem dX7_highShare_8 : decode cX7_highShare 8 = .ok (.aload_n 0, 1) := by decide +kernel
theorem dX7_highShare_9 : decode cX7_highShare 9 = .ok (.getfield 18, 3) := by decide +kernel
theorem dX7_highShare_12 : decode cX7_highShare 12 = .ok (.iload_n 1, 1) := by decide +kernel
theorem dX7_highShare_13 : decode cX7_highShare 13 = .ok (.aaload, 1) := by decide +kernel
theorem dX7_highShare_14 : decode cX7_highShare 14 = .ok (.astore_n 3, 1) := by decide +kernel
theorem dX7_highShare_15 : decode cX7_highShare 15 = .ok (.aload_n 3, 1) := by decide +kernel
theorem dX7_highShare_16 : decode cX7_highShare 16 = .ok (.getfield 155, 3) := by decide +kernel
theorem dX7_highShare_19 : decode cX7_highShare 19 = .ok (.ifCond .le 7, 3) := by decide +kernel
theorem dX7_highShare_22 : decode cX7_highShare 22 = .ok (.iconst 1, 1) := by decide +kernel
theorem dX7_highShare_23 : decode cX7_highShare 23 = .ok (.goto 4, 3) := by decide +kernel
theorem dX7_highShare_26 : decode cX7_highShare 26 = .ok (.iconst 0, 1) := by decide +kernel
theorem dX7_highShare_27 : decode cX7_highShare 27 = .ok (.invokestatic 159, 3) := by decide +kernel
theorem dX7_highShare_30 : decode cX7_highShare 30 = .ok (.aload_n 3, 1) := by decide +kernel
theorem dX7_highShare_31 : decode cX7_highShare 31 = .ok (.iload_n 2, 1) := by decide +kernel
theorem dX7_highShare_32 : decode cX7_highShare 32 = .ok (.invokevirtual 272, 3) := by decide +kernel
theorem dX7_highShare_35 : decode cX7_highShare 35 = .ok (.i2f, 1) := by decide +kernel
theorem dX7_highShare_36 : decode cX7_highShare 36 = .ok (.aload_n 3, 1) := by decide +kernel
theorem dX7_highShare_37 : decode cX7_highShare 37 = .ok (.getfield 155, 3) := by decide +kernel
theorem dX7_highShare_40 : decode cX7_highShare 40 = .ok (.i2f, 1) := by decide +kernel
theorem dX7_highShare_41 : decode cX7_highShare 41 = .ok (.fdiv, 1) := by decide +kernel
theorem dX7_highShare_42 : decode cX7_highShare 42 = .ok (.freturn, 1) := by decide +kernel
theorem dX7_meanRun_0 : decode cX7_meanRun 0 = .ok (.iload_n 1, 1) := by decide +kernel
theorem dX7_meanRun_1 : decode cX7_meanRun 1 = .ok (.invokestatic 141, 3) := by decide +kernel
theorem dX7_meanRun_4 : decode cX7_meanRun 4 = .ok (.iload_n 2, 1) := by decide +kernel
theorem dX7_meanRun_5 : decode cX7_meanRun 5 = .ok (.invokestatic 51, 3) := by decide +kernel
theorem dX7_meanRun_8 : decode cX7_meanRun 8 = .ok (.aload_n 0, 1) := by decide +kernel
theorem dX7_meanRun_9 : decode cX7_meanRun 9 = .ok (.getfield 18, 3) := by decide +kernel
theorem dX7_meanRun_12 : decode cX7_meanRun 12 = .ok (.iload_n 1, 1) := by decide +kernel
theorem dX7_meanRun_13 : decode cX7_meanRun 13 = .ok (.aaload, 1) := by decide +kernel
theorem dX7_meanRun_14 : decode cX7_meanRun 14 = .ok (.astore_n 3, 1) := by decide +kernel
theorem dX7_meanRun_15 : decode cX7_meanRun 15 = .ok (.aload_n 3, 1) := by decide +kernel
theorem dX7_meanRun_16 : decode cX7_meanRun 16 = .ok (.iload_n 2, 1) := by decide +kernel
theorem dX7_meanRun_17 : decode cX7_meanRun 17 = .ok (.invokevirtual 166, 3) := by decide +kernel
theorem dX7_meanRun_20 : decode cX7_meanRun 20 = .ok (.istore 4, 2) := by decide +kernel
theorem dX7_meanRun_22 : decode cX7_meanRun 22 = .ok (.iload 4, 2) := by decide +kernel
theorem dX7_meanRun_24 : decode cX7_meanRun 24 = .ok (.ifCond .le 7, 3) := by decide +kernel
theorem dX7_meanRun_27 : decode cX7_meanRun 27 = .ok (.iconst 1, 1) := by decide +kernel
theorem dX7_meanRun_28 : decode cX7_meanRun 28 = .ok (.goto 4, 3) := by decide +kernel
theorem dX7_meanRun_31 : decode cX7_meanRun 31 = .ok (.iconst 0, 1) := by decide +kernel
theorem dX7_meanRun_32 : decode cX7_meanRun 32 = .ok (.invokestatic 159, 3) := by decide +kernel
theorem dX7_meanRun_35 : decode cX7_meanRun 35 = .ok (.aload_n 3, 1) := by decide +kernel
theorem dX7_meanRun_36 : decode cX7_meanRun 36 = .ok (.getfield 155, 3) := by decide +kernel
theorem dX7_meanRun_39 : decode cX7_meanRun 39 = .ok (.i2d, 1) := by decide +kernel
theorem dX7_meanRun_40 : decode cX7_meanRun 40 = .ok (.iload 4, 2) := by decide +kernel
theorem dX7_meanRun_42 : decode cX7_meanRun 42 = .ok (.i2d, 1) := by decide +kernel
theorem dX7_meanRun_43 : decode cX7_meanRun 43 = .ok (.ddiv, 1) := by decide +kernel
theorem dX7_meanRun_44 : decode cX7_meanRun 44 = .ok (.dreturn, 1) := by decide +kernel
theorem dX7_isSound_0 : decode cX7_isSound 0 = .ok (.iconst 0, 1) := by decide +kernel
theorem dX7_isSound_1 : decode cX7_isSound 1 = .ok (.istore_n 1, 1) := by decide +kernel
theorem dX7_isSound_2 : decode cX7_isSound 2 = .ok (.iload_n 1, 1) := by decide +kernel
theorem dX7_isSound_3 : decode cX7_isSound 3 = .ok (.aload_n 0, 1) := by decide +kernel
theorem dX7_isSound_4 : decode cX7_isSound 4 = .ok (.getfield 18, 3) := by decide +kernel
theorem dX7_isSound_7 : decode cX7_isSound 7 = .ok (.arraylength, 1) := by decide +kernel
theorem dX7_isSound_8 : decode cX7_isSound 8 = .ok (.if_icmp .ge 50, 3) := by decide +kernel
theorem dX7_isSound_11 : decode cX7_isSound 11 = .ok (.iconst 0, 1) := by decide +kernel
theorem dX7_isSound_12 : decode cX7_isSound 12 = .ok (.istore_n 2, 1) := by decide +kernel
theorem dX7_isSound_13 : decode cX7_isSound 13 = .ok (.iload_n 2, 1) := by decide +kernel
theorem dX7_isSound_14 : decode cX7_isSound 14 = .ok (.iconst 4, 1) := by decide +kernel
theorem dX7_isSound_15 : decode cX7_isSound 15 = .ok (.if_icmp .ge 37, 3) := by decide +kernel
theorem dX7_isSound_18 : decode cX7_isSound 18 = .ok (.aload_n 0, 1) := by decide +kernel
theorem dX7_isSound_19 : decode cX7_isSound 19 = .ok (.getfield 18, 3) := by decide +kernel
theorem dX7_isSound_22 : decode cX7_isSound 22 = .ok (.iload_n 1, 1) := by decide +kernel
theorem dX7_isSound_23 : decode cX7_isSound 23 = .ok (.aaload, 1) := by decide +kernel
theorem dX7_isSound_24 : decode cX7_isSound 24 = .ok (.iload_n 2, 1) := by decide +kernel
theorem dX7_isSound_25 : decode cX7_isSound 25 = .ok (.invokevirtual 275, 3) := by decide +kernel
theorem dX7_isSound_28 : decode cX7_isSound 28 = .ok (.ifCond .eq 16, 3) := by decide +kernel
theorem dX7_isSound_31 : decode cX7_isSound 31 = .ok (.aload_n 0, 1) := by decide +kernel
theorem dX7_isSound_32 : decode cX7_isSound 32 = .ok (.getfield 18, 3) := by decide +kernel
theorem dX7_isSound_35 : decode cX7_isSound 35 = .ok (.iload_n 1, 1) := by decide +kernel
theorem dX7_isSound_36 : decode cX7_isSound 36 = .ok (.aaload, 1) := by decide +kernel
theorem dX7_isSound_37 : decode cX7_isSound 37 = .ok (.iload_n 2, 1) := by decide +kernel
theorem dX7_isSound_38 : decode cX7_isSound 38 = .ok (.invokevirtual 278, 3) := by decide +kernel
theorem dX7_isSound_41 : decode cX7_isSound 41 = .ok (.ifCond .ne 5, 3) := by decide +kernel
theorem dX7_isSound_44 : decode cX7_isSound 44 = .ok (.iconst 0, 1) := by decide +kernel
theorem dX7_isSound_45 : decode cX7_isSound 45 = .ok (.ireturn, 1) := by decide +kernel
theorem dX7_isSound_46 : decode cX7_isSound 46 = .ok (.iinc 2 1, 3) := by decide +kernel
theorem dX7_isSound_49 : decode cX7_isSound 49 = .ok (.goto (-36), 3) := by decide +kernel
theorem dX7_isSound_52 : decode cX7_isSound 52 = .ok (.iinc 1 1, 3) := by decide +kernel
theorem dX7_isSound_55 : decode cX7_isSound 55 = .ok (.goto (-53), 3) := by decide +kernel
theorem dX7_isSound_58 : decode cX7_isSound 58 = .ok (.aload_n 0, 1) := by decide +kernel
theorem dX7_isSound_59 : decode cX7_isSound 59 = .ok (.getfield 33, 3) := by decide +kernel
theorem dX7_isSound_62 : decode cX7_isSound 62 = .ok (.invokevirtual 281, 3) := by decide +kernel
theorem dX7_isSound_65 : decode cX7_isSound 65 = .ok (.ireturn, 1) := by decide +kernel
theorem dX7_checkWire_0 : decode cX7_checkWire 0 = .ok (.iload_n 0, 1) := by decide +kernel
theorem dX7_checkWire_1 : decode cX7_checkWire 1 = .ok (.ifCond .lt 8, 3) := by decide +kernel
theorem dX7_checkWire_4 : decode cX7_checkWire 4 = .ok (.iload_n 0, 1) := by decide +kernel
theorem dX7_checkWire_5 : decode cX7_checkWire 5 = .ok (.iconst 4, 1) := by decide +kernel
theorem dX7_checkWire_6 : decode cX7_checkWire 6 = .ok (.if_icmp .lt 14, 3) := by decide +kernel
theorem dX7_checkWire_9 : decode cX7_checkWire 9 = .ok (.new 284, 3) := by decide +kernel
theorem dX7_checkWire_12 : decode cX7_checkWire 12 = .ok (.dup, 1) := by decide +kernel
theorem dX7_checkWire_13 : decode cX7_checkWire 13 = .ok (.ldc_w 286, 3) := by decide +kernel
theorem dX7_checkWire_16 : decode cX7_checkWire 16 = .ok (.invokespecial 288, 3) := by decide +kernel
theorem dX7_checkWire_19 : decode cX7_checkWire 19 = .ok (.athrow, 1) := by decide +kernel
theorem dX7_checkWire_20 : decode cX7_checkWire 20 = .ok (.return_, 1) := by decide +kernel
theorem dX7_checkCapture_0 : decode cX7_checkCapture 0 = .ok (.iload_n 0, 1) := by decide +kernel
theorem dX7_checkCapture_1 : decode cX7_checkCapture 1 = .ok (.ifCond .lt 8, 3) := by decide +kernel
theorem dX7_checkCapture_4 : decode cX7_checkCapture 4 = .ok (.iload_n 0, 1) := by decide +kernel
theorem dX7_checkCapture_5 : decode cX7_checkCapture 5 = .ok (.iconst 2, 1) := by decide +kernel
theorem dX7_checkCapture_6 : decode cX7_checkCapture 6 = .ok (.if_icmp .lt 14, 3) := by decide +kernel
theorem dX7_checkCapture_9 : decode cX7_checkCapture 9 = .ok (.new 284, 3) := by decide +kernel
theorem dX7_checkCapture_12 : decode cX7_checkCapture 12 = .ok (.dup, 1) := by decide +kernel
theorem dX7_checkCapture_13 : decode cX7_checkCapture 13 = .ok (.ldc_w 291, 3) := by decide +kernel
theorem dX7_checkCapture_16 : decode cX7_checkCapture 16 = .ok (.invokespecial 288, 3) := by decide +kernel
theorem dX7_checkCapture_19 : decode cX7_checkCapture 19 = .ok (.athrow, 1) := by decide +kernel
theorem dX7_checkCapture_20 : decode cX7_checkCapture 20 = .ok (.return_, 1) := by decide +kernel
theorem dX7_checkNote_0 : decode cX7_checkNote 0 = .ok (.iload_n 1, 1) := by decide +kernel
theorem dX7_checkNote_1 : decode cX7_checkNote 1 = .ok (.ifCond .lt 21, 3) := by decide +kernel
theorem dX7_checkNote_4 : decode cX7_checkNote 4 = .ok (.iload_n 1, 1) := by decide +kernel
theorem dX7_checkNote_5 : decode cX7_checkNote 5 = .ok (.aload_n 0, 1) := by decide +kernel
theorem dX7_checkNote_6 : decode cX7_checkNote 6 = .ok (.getfield 33, 3) := by decide +kernel
theorem dX7_checkNote_9 : decode cX7_checkNote 9 = .ok (.getfield 200, 3) := by decide +kernel
theorem dX7_checkNote_12 : decode cX7_checkNote 12 = .ok (.if_icmp .ge 10, 3) := by decide +kernel
theorem dX7_checkNote_15 : decode cX7_checkNote 15 = .ok (.iload_n 1, 1) := by decide +kernel
theorem dX7_checkNote_16 : decode cX7_checkNote 16 = .ok (.sipush 200, 3) := by decide +kernel
theorem dX7_checkNote_19 : decode cX7_checkNote 19 = .ok (.if_icmp .lt 14, 3) := by decide +kernel
theorem dX7_checkNote_22 : decode cX7_checkNote 22 = .ok (.new 284, 3) := by decide +kernel
theorem dX7_checkNote_25 : decode cX7_checkNote 25 = .ok (.dup, 1) := by decide +kernel
theorem dX7_checkNote_26 : decode cX7_checkNote 26 = .ok (.ldc_w 293, 3) := by decide +kernel
theorem dX7_checkNote_29 : decode cX7_checkNote 29 = .ok (.invokespecial 288, 3) := by decide +kernel
theorem dX7_checkNote_32 : decode cX7_checkNote 32 = .ok (.athrow, 1) := by decide +kernel
theorem dX7_checkNote_33 : decode cX7_checkNote 33 = .ok (.return_, 1) := by decide +kernel
theorem dX7_checkRange_0 : decode cX7_checkRange 0 = .ok (.iload_n 0, 1) := by decide +kernel
theorem dX7_checkRange_1 : decode cX7_checkRange 1 = .ok (.iload_n 1, 1) := by decide +kernel
theorem dX7_checkRange_2 : decode cX7_checkRange 2 = .ok (.if_icmp .lt 8, 3) := by decide +kernel
theorem dX7_checkRange_5 : decode cX7_checkRange 5 = .ok (.iload_n 0, 1) := by decide +kernel
theorem dX7_checkRange_6 : decode cX7_checkRange 6 = .ok (.iload_n 2, 1) := by decide +kernel
theorem dX7_checkRange_7 : decode cX7_checkRange 7 = .ok (.if_icmp .le 14, 3) := by decide +kernel
theorem dX7_checkRange_10 : decode cX7_checkRange 10 = .ok (.new 295, 3) := by decide +kernel
theorem dX7_checkRange_13 : decode cX7_checkRange 13 = .ok (.dup, 1) := by decide +kernel
theorem dX7_checkRange_14 : decode cX7_checkRange 14 = .ok (.ldc_w 297, 3) := by decide +kernel
theorem dX7_checkRange_17 : decode cX7_checkRange 17 = .ok (.invokespecial 299, 3) := by decide +kernel
theorem dX7_checkRange_20 : decode cX7_checkRange 20 = .ok (.athrow, 1) := by decide +kernel
theorem dX7_checkRange_21 : decode cX7_checkRange 21 = .ok (.return_, 1) := by decide +kernel
theorem dX7_checkParity_0 : decode cX7_checkParity 0 = .ok (.iload_n 0, 1) := by decide +kernel
theorem dX7_checkParity_1 : decode cX7_checkParity 1 = .ok (.bipush 110, 2) := by decide +kernel
theorem dX7_checkParity_3 : decode cX7_checkParity 3 = .ok (.if_icmp .eq 26, 3) := by decide +kernel
theorem dX7_checkParity_6 : decode cX7_checkParity 6 = .ok (.iload_n 0, 1) := by decide +kernel
theorem dX7_checkParity_7 : decode cX7_checkParity 7 = .ok (.bipush 101, 2) := by decide +kernel
theorem dX7_checkParity_9 : decode cX7_checkParity 9 = .ok (.if_icmp .eq 20, 3) := by decide +kernel
theorem dX7_checkParity_12 : decode cX7_checkParity 12 = .ok (.iload_n 0, 1) := by decide +kernel
theorem dX7_checkParity_13 : decode cX7_checkParity 13 = .ok (.bipush 111, 2) := by decide +kernel
theorem dX7_checkParity_15 : decode cX7_checkParity 15 = .ok (.if_icmp .eq 14, 3) := by decide +kernel
theorem dX7_checkParity_18 : decode cX7_checkParity 18 = .ok (.new 295, 3) := by decide +kernel
theorem dX7_checkParity_21 : decode cX7_checkParity 21 = .ok (.dup, 1) := by decide +kernel
theorem dX7_checkParity_22 : decode cX7_checkParity 22 = .ok (.ldc_w 300, 3) := by decide +kernel
theorem dX7_checkParity_25 : decode cX7_checkParity 25 = .ok (.invokespecial 299, 3) := by decide +kernel
theorem dX7_checkParity_28 : decode cX7_checkParity 28 = .ok (.athrow, 1) := by decide +kernel
theorem dX7_checkParity_29 : decode cX7_checkParity 29 = .ok (.return_, 1) := by decide +kernel
theorem dX7_checkApart_0 : decode cX7_checkApart 0 = .ok (.iload_n 0, 1) := by decide +kernel
theorem dX7_checkApart_1 : decode cX7_checkApart 1 = .ok (.iload_n 1, 1) := by decide +kernel
theorem dX7_checkApart_2 : decode cX7_checkApart 2 = .ok (.if_icmp .ne 14, 3) := by decide +kernel
theorem dX7_checkApart_5 : decode cX7_checkApart 5 = .ok (.new 295, 3) := by decide +kernel
theorem dX7_checkApart_8 : decode cX7_checkApart 8 = .ok (.dup, 1) := by decide +kernel
theorem dX7_checkApart_9 : decode cX7_checkApart 9 = .ok (.ldc_w 302, 3) := by decide +kernel
theorem dX7_checkApart_12 : decode cX7_checkApart 12 = .ok (.invokespecial 299, 3) := by decide +kernel
theorem dX7_checkApart_15 : decode cX7_checkApart 15 = .ok (.athrow, 1) := by decide +kernel
theorem dX7_checkApart_16 : decode cX7_checkApart 16 = .ok (.return_, 1) := by decide +kernel
theorem dX7_checkThreeApart_0 : decode cX7_checkThreeApart 0 = .ok (.iload_n 0, 1) := by decide +kernel
theorem dX7_checkThreeApart_1 : decode cX7_checkThreeApart 1 = .ok (.iload_n 1, 1) := by decide +kernel
theorem dX7_checkThreeApart_2 : decode cX7_checkThreeApart 2 = .ok (.invokestatic 114, 3) := by decide +kernel
theorem dX7_checkThreeApart_5 : decode cX7_checkThreeApart 5 = .ok (.iload_n 0, 1) := by decide +kernel
theorem dX7_checkThreeApart_6 : decode cX7_checkThreeApart 6 = .ok (.iload_n 2, 1) := by decide +kernel
theorem dX7_checkThreeApart_7 : decode cX7_checkThreeApart 7 = .ok (.invokestatic 114, 3) := by decide +kernel
theorem dX7_checkThreeApart_10 : decode cX7_checkThreeApart 10 = .ok (.iload_n 1, 1) := by decide +kernel
theorem dX7_checkThreeApart_11 : decode cX7_checkThreeApart 11 = .ok (.iload_n 2, 1) := by decide +kernel
theorem dX7_checkThreeApart_12 : decode cX7_checkThreeApart 12 = .ok (.invokestatic 114, 3) := by decide +kernel
theorem dX7_checkThreeApart_15 : decode cX7_checkThreeApart 15 = .ok (.return_, 1) := by decide +kernel
theorem dX7_checkStepKind_0 : decode cX7_checkStepKind 0 = .ok (.iload_n 0, 1) := by decide +kernel
theorem dX7_checkStepKind_1 : decode cX7_checkStepKind 1 = .ok (.bipush 114, 2) := by decide +kernel
theorem dX7_checkStepKind_3 : decode cX7_checkStepKind 3 = .ok (.if_icmp .eq 44, 3) := by decide +kernel
theorem dX7_checkStepKind_6 : decode cX7_checkStepKind 6 = .ok (.iload_n 0, 1) := by decide +kernel
theorem dX7_checkStepKind_7 : decode cX7_checkStepKind 7 = .ok (.bipush 102, 2) := by decide +kernel
theorem dX7_checkStepKind_9 : decode cX7_checkStepKind 9 = .ok (.if_icmp .eq 38, 3) := by decide +kernel
theorem dX7_checkStepKind_12 : decode cX7_checkStepKind 12 = .ok (.iload_n 0, 1) := by decide +kernel
theorem dX7_checkStepKind_13 : decode cX7_checkStepKind 13 = .ok (.bipush 104, 2) := by decide +kernel
theorem dX7_checkStepKind_15 : decode cX7_checkStepKind 15 = .ok (.if_icmp .eq 32, 3) := by decide +kernel
theorem dX7_checkStepKind_18 : decode cX7_checkStepKind 18 = .ok (.iload_n 0, 1) := by decide +kernel
theorem dX7_checkStepKind_19 : decode cX7_checkStepKind 19 = .ok (.bipush 108, 2) := by decide +kernel
theorem dX7_checkStepKind_21 : decode cX7_checkStepKind 21 = .ok (.if_icmp .eq 26, 3) := by decide +kernel
theorem dX7_checkStepKind_24 : decode cX7_checkStepKind 24 = .ok (.iload_n 0, 1) := by decide +kernel
theorem dX7_checkStepKind_25 : decode cX7_checkStepKind 25 = .ok (.bipush 112, 2) := by decide +kernel
theorem dX7_checkStepKind_27 : decode cX7_checkStepKind 27 = .ok (.if_icmp .eq 20, 3) := by decide +kernel
theorem dX7_checkStepKind_30 : decode cX7_checkStepKind 30 = .ok (.iload_n 0, 1) := by decide +kernel
theorem dX7_checkStepKind_31 : decode cX7_checkStepKind 31 = .ok (.bipush 116, 2) := by decide +kernel
theorem dX7_checkStepKind_33 : decode cX7_checkStepKind 33 = .ok (.if_icmp .eq 14, 3) := by decide +kernel
theorem dX7_checkStepKind_36 : decode cX7_checkStepKind 36 = .ok (.new 295, 3) := by decide +kernel
theorem dX7_checkStepKind_39 : decode cX7_checkStepKind 39 = .ok (.dup, 1) := by decide +kernel
theorem dX7_checkStepKind_40 : decode cX7_checkStepKind 40 = .ok (.ldc_w 304, 3) := by decide +kernel
theorem dX7_checkStepKind_43 : decode cX7_checkStepKind 43 = .ok (.invokespecial 299, 3) := by decide +kernel
theorem dX7_checkStepKind_46 : decode cX7_checkStepKind 46 = .ok (.athrow, 1) := by decide +kernel
theorem dX7_checkStepKind_47 : decode cX7_checkStepKind 47 = .ok (.return_, 1) := by decide +kernel
theorem dX7_checkFreeStep_0 : decode cX7_checkFreeStep 0 = .ok (.aload_n 0, 1) := by decide +kernel
theorem dX7_checkFreeStep_1 : decode cX7_checkFreeStep 1 = .ok (.getfield 26, 3) := by decide +kernel
theorem dX7_checkFreeStep_4 : decode cX7_checkFreeStep 4 = .ok (.getfield 192, 3) := by decide +kernel
theorem dX7_checkFreeStep_7 : decode cX7_checkFreeStep 7 = .ok (.bipush 6, 2) := by decide +kernel
theorem dX7_checkFreeStep_9 : decode cX7_checkFreeStep 9 = .ok (.if_icmp .lt 14, 3) := by decide +kernel
theorem dX7_checkFreeStep_12 : decode cX7_checkFreeStep 12 = .ok (.new 306, 3) := by decide +kernel
theorem dX7_checkFreeStep_15 : decode cX7_checkFreeStep 15 = .ok (.dup, 1) := by decide +kernel
theorem dX7_checkFreeStep_16 : decode cX7_checkFreeStep 16 = .ok (.ldc_w 308, 3) := by decide +kernel
theorem dX7_checkFreeStep_19 : decode cX7_checkFreeStep 19 = .ok (.invokespecial 310, 3) := by decide +kernel
theorem dX7_checkFreeStep_22 : decode cX7_checkFreeStep 22 = .ok (.athrow, 1) := by decide +kernel
theorem dX7_checkFreeStep_23 : decode cX7_checkFreeStep 23 = .ok (.return_, 1) := by decide +kernel
theorem dX7_checkFlips_0 : decode cX7_checkFlips 0 = .ok (.iload_n 0, 1) := by decide +kernel
theorem dX7_checkFlips_1 : decode cX7_checkFlips 1 = .ok (.ifCond .ne 14, 3) := by decide +kernel
theorem dX7_checkFlips_4 : decode cX7_checkFlips 4 = .ok (.new 306, 3) := by decide +kernel
theorem dX7_checkFlips_7 : decode cX7_checkFlips 7 = .ok (.dup, 1) := by decide +kernel
theorem dX7_checkFlips_8 : decode cX7_checkFlips 8 = .ok (.ldc_w 311, 3) := by decide +kernel
theorem dX7_checkFlips_11 : decode cX7_checkFlips 11 = .ok (.invokespecial 310, 3) := by decide +kernel
theorem dX7_checkFlips_14 : decode cX7_checkFlips 14 = .ok (.athrow, 1) := by decide +kernel
theorem dX7_checkFlips_15 : decode cX7_checkFlips 15 = .ok (.return_, 1) := by decide +kernel
theorem dX7_checkThere_0 : decode cX7_checkThere 0 = .ok (.iload_n 0, 1) := by decide +kernel
theorem dX7_checkThere_1 : decode cX7_checkThere 1 = .ok (.ifCond .ne 14, 3) := by decide +kernel
theorem dX7_checkThere_4 : decode cX7_checkThere 4 = .ok (.new 313, 3) := by decide +kernel
theorem dX7_checkThere_7 : decode cX7_checkThere 7 = .ok (.dup, 1) := by decide +kernel
theorem dX7_checkThere_8 : decode cX7_checkThere 8 = .ok (.ldc_w 315, 3) := by decide +kernel
theorem dX7_checkThere_11 : decode cX7_checkThere 11 = .ok (.invokespecial 317, 3) := by decide +kernel
theorem dX7_checkThere_14 : decode cX7_checkThere 14 = .ok (.athrow, 1) := by decide +kernel
theorem dX7_checkThere_15 : decode cX7_checkThere 15 = .ok (.return_, 1) := by decide +kernel
theorem dX7_checkUse_0 : decode cX7_checkUse 0 = .ok (.iload_n 0, 1) := by decide +kernel
theorem dX7_checkUse_1 : decode cX7_checkUse 1 = .ok (.ifCond .ne 14, 3) := by decide +kernel
theorem dX7_checkUse_4 : decode cX7_checkUse 4 = .ok (.new 318, 3) := by decide +kernel
theorem dX7_checkUse_7 : decode cX7_checkUse 7 = .ok (.dup, 1) := by decide +kernel
theorem dX7_checkUse_8 : decode cX7_checkUse 8 = .ok (.ldc_w 320, 3) := by decide +kernel
theorem dX7_checkUse_11 : decode cX7_checkUse 11 = .ok (.invokespecial 322, 3) := by decide +kernel
theorem dX7_checkUse_14 : decode cX7_checkUse 14 = .ok (.athrow, 1) := by decide +kernel
theorem dX7_checkUse_15 : decode cX7_checkUse 15 = .ok (.return_, 1) := by decide +kernel
theorem dX7_hasBit_0 : decode cX7_hasBit 0 = .ok (.iload_n 0, 1) := by decide +kernel
theorem dX7_hasBit_1 : decode cX7_hasBit 1 = .ok (.iload_n 1, 1) := by decide +kernel
theorem dX7_hasBit_2 : decode cX7_hasBit 2 = .ok (.ishr, 1) := by decide +kernel
theorem dX7_hasBit_3 : decode cX7_hasBit 3 = .ok (.iconst 1, 1) := by decide +kernel
theorem dX7_hasBit_4 : decode cX7_hasBit 4 = .ok (.iand, 1) := by decide +kernel
theorem dX7_hasBit_5 : decode cX7_hasBit 5 = .ok (.iconst 1, 1) := by decide +kernel
theorem dX7_hasBit_6 : decode cX7_hasBit 6 = .ok (.if_icmp .ne 7, 3) := by decide +kernel
theorem dX7_hasBit_9 : decode cX7_hasBit 9 = .ok (.iconst 1, 1) := by decide +kernel
theorem dX7_hasBit_10 : decode cX7_hasBit 10 = .ok (.goto 4, 3) := by decide +kernel
theorem dX7_hasBit_13 : decode cX7_hasBit 13 = .ok (.iconst 0, 1) := by decide +kernel
theorem dX7_hasBit_14 : decode cX7_hasBit 14 = .ok (.ireturn, 1) := by decide +kernel
theorem dX7_tickBehind_0 : decode cX7_tickBehind 0 = .ok (.iload_n 1, 1) := by decide +kernel
theorem dX7_tickBehind_1 : decode cX7_tickBehind 1 = .ok (.iload_n 2, 1) := by decide +kernel
theorem dX7_tickBehind_2 : decode cX7_tickBehind 2 = .ok (.iadd, 1) := by decide +kernel
theorem dX7_tickBehind_3 : decode cX7_tickBehind 3 = .ok (.iload_n 2, 1) := by decide +kernel
theorem dX7_tickBehind_4 : decode cX7_tickBehind 4 = .ok (.aload_n 0, 1) := by decide +kernel
theorem dX7_tickBehind_5 : decode cX7_tickBehind 5 = .ok (.getfield 87, 3) := by decide +kernel
theorem dX7_tickBehind_8 : decode cX7_tickBehind 8 = .ok (.imul, 1) := by decide +kernel
theorem dX7_tickBehind_9 : decode cX7_tickBehind 9 = .ok (.sipush 1000, 3) := by decide +kernel
theorem dX7_tickBehind_12 : decode cX7_tickBehind 12 = .ok (.idiv, 1) := by decide +kernel
theorem dX7_tickBehind_13 : decode cX7_tickBehind 13 = .ok (.iadd, 1) := by decide +kernel
theorem dX7_tickBehind_14 : decode cX7_tickBehind 14 = .ok (.ireturn, 1) := by decide +kernel
theorem dX7_serialBits_0 : decode cX7_serialBits 0 = .ok (.iload_n 0, 1) := by decide +kernel
theorem dX7_serialBits_1 : decode cX7_serialBits 1 = .ok (.bipush 110, 2) := by decide +kernel
theorem dX7_serialBits_3 : decode cX7_serialBits 3 = .ok (.if_icmp .ne 8, 3) := by decide +kernel
theorem dX7_serialBits_6 : decode cX7_serialBits 6 = .ok (.bipush 10, 2) := by decide +kernel
theorem dX7_serialBits_8 : decode cX7_serialBits 8 = .ok (.goto 5, 3) := by decide +kernel
theorem dX7_serialBits_11 : decode cX7_serialBits 11 = .ok (.bipush 11, 2) := by decide +kernel
theorem dX7_serialBits_13 : decode cX7_serialBits 13 = .ok (.ireturn, 1) := by decide +kernel
theorem dX7_parityOf_0 : decode cX7_parityOf 0 = .ok (.iload_n 0, 1) := by decide +kernel
theorem dX7_parityOf_1 : decode cX7_parityOf 1 = .ok (.invokestatic 323, 3) := by decide +kernel
theorem dX7_parityOf_4 : decode cX7_parityOf 4 = .ok (.iconst 1, 1) := by decide +kernel
theorem dX7_parityOf_5 : decode cX7_parityOf 5 = .ok (.iand, 1) := by decide +kernel
theorem dX7_parityOf_6 : decode cX7_parityOf 6 = .ok (.istore_n 2, 1) := by decide +kernel
theorem dX7_parityOf_7 : decode cX7_parityOf 7 = .ok (.iload_n 1, 1) := by decide +kernel
theorem dX7_parityOf_8 : decode cX7_parityOf 8 = .ok (.bipush 111, 2) := by decide +kernel
theorem dX7_parityOf_10 : decode cX7_parityOf 10 = .ok (.if_icmp .ne 9, 3) := by decide +kernel
theorem dX7_parityOf_13 : decode cX7_parityOf 13 = .ok (.iconst 1, 1) := by decide +kernel
theorem dX7_parityOf_14 : decode cX7_parityOf 14 = .ok (.iload_n 2, 1) := by decide +kernel
theorem dX7_parityOf_15 : decode cX7_parityOf 15 = .ok (.isub, 1) := by decide +kernel
theorem dX7_parityOf_16 : decode cX7_parityOf 16 = .ok (.goto 4, 3) := by decide +kernel
theorem dX7_parityOf_19 : decode cX7_parityOf 19 = .ok (.iload_n 2, 1) := by decide +kernel
theorem dX7_parityOf_20 : decode cX7_parityOf 20 = .ok (.ireturn, 1) := by decide +kernel
theorem dX7_serialWord_0 : decode cX7_serialWord 0 = .ok (.iload_n 0, 1) := by decide +kernel
theorem dX7_serialWord_1 : decode cX7_serialWord 1 = .ok (.iconst 1, 1) := by decide +kernel
theorem dX7_serialWord_2 : decode cX7_serialWord 2 = .ok (.ishl, 1) := by decide +kernel
theorem dX7_serialWord_3 : decode cX7_serialWord 3 = .ok (.istore_n 2, 1) := by decide +kernel
theorem dX7_serialWord_4 : decode cX7_serialWord 4 = .ok (.iload_n 1, 1) := by decide +kernel
theorem dX7_serialWord_5 : decode cX7_serialWord 5 = .ok (.bipush 110, 2) := by decide +kernel
theorem dX7_serialWord_7 : decode cX7_serialWord 7 = .ok (.if_icmp .eq 14, 3) := by decide +kernel
theorem dX7_serialWord_10 : decode cX7_serialWord 10 = .ok (.iload_n 2, 1) := by decide +kernel
theorem dX7_serialWord_11 : decode cX7_serialWord 11 = .ok (.iload_n 0, 1) := by decide +kernel
theorem dX7_serialWord_12 : decode cX7_serialWord 12 = .ok (.iload_n 1, 1) := by decide +kernel
theorem dX7_serialWord_13 : decode cX7_serialWord 13 = .ok (.invokestatic 328, 3) := by decide +kernel
theorem dX7_serialWord_16 : decode cX7_serialWord 16 = .ok (.bipush 9, 2) := by decide +kernel
theorem dX7_serialWord_18 : decode cX7_serialWord 18 = .ok (.ishl, 1) := by decide +kernel
theorem dX7_serialWord_19 : decode cX7_serialWord 19 = .ok (.ior, 1) := by decide +kernel
theorem dX7_serialWord_20 : decode cX7_serialWord 20 = .ok (.istore_n 2, 1) := by decide +kernel
theorem dX7_serialWord_21 : decode cX7_serialWord 21 = .ok (.iload_n 2, 1) := by decide +kernel
theorem dX7_serialWord_22 : decode cX7_serialWord 22 = .ok (.iconst 1, 1) := by decide +kernel
theorem dX7_serialWord_23 : decode cX7_serialWord 23 = .ok (.iload_n 1, 1) := by decide +kernel
theorem dX7_serialWord_24 : decode cX7_serialWord 24 = .ok (.invokestatic 94, 3) := by decide +kernel
theorem dX7_serialWord_27 : decode cX7_serialWord 27 = .ok (.iconst 1, 1) := by decide +kernel
theorem dX7_serialWord_28 : decode cX7_serialWord 28 = .ok (.isub, 1) := by decide +kernel
theorem dX7_serialWord_29 : decode cX7_serialWord 29 = .ok (.ishl, 1) := by decide +kernel
theorem dX7_serialWord_30 : decode cX7_serialWord 30 = .ok (.ior, 1) := by decide +kernel
theorem dX7_serialWord_31 : decode cX7_serialWord 31 = .ok (.ireturn, 1) := by decide +kernel
theorem dX7_answeredByte_0 : decode cX7_answeredByte 0 = .ok (.iload_n 0, 1) := by decide +kernel
theorem dX7_answeredByte_1 : decode cX7_answeredByte 1 = .ok (.iconst 1, 1) := by decide +kernel
theorem dX7_answeredByte_2 : decode cX7_answeredByte 2 = .ok (.ishl, 1) := by decide +kernel
theorem dX7_answeredByte_3 : decode cX7_answeredByte 3 = .ok (.iload_n 1, 1) := by decide +kernel
theorem dX7_answeredByte_4 : decode cX7_answeredByte 4 = .ok (.ifCond .eq 7, 3) := by decide +kernel
theorem dX7_answeredByte_7 : decode cX7_answeredByte 7 = .ok (.iconst 0, 1) := by decide +kernel
theorem dX7_answeredByte_8 : decode cX7_answeredByte 8 = .ok (.goto 4, 3) := by decide +kernel
theorem dX7_answeredByte_11 : decode cX7_answeredByte 11 = .ok (.iconst 1, 1) := by decide +kernel
theorem dX7_answeredByte_12 : decode cX7_answeredByte 12 = .ok (.ior, 1) := by decide +kernel
theorem dX7_answeredByte_13 : decode cX7_answeredByte 13 = .ok (.ireturn, 1) := by decide +kernel
theorem dX7_planTwoWires_0 : decode cX7_planTwoWires 0 = .ok (.aload_n 1, 1) := by decide +kernel
theorem dX7_planTwoWires_1 : decode cX7_planTwoWires 1 = .ok (.iconst 1, 1) := by decide +kernel
theorem dX7_planTwoWires_2 : decode cX7_planTwoWires 2 = .ok (.invokevirtual 62, 3) := by decide +kernel
theorem dX7_planTwoWires_5 : decode cX7_planTwoWires 5 = .ok (.aload_n 2, 1) := by decide +kernel
theorem dX7_planTwoWires_6 : decode cX7_planTwoWires 6 = .ok (.iconst 1, 1) := by decide +kernel
theorem dX7_planTwoWires_7 : decode cX7_planTwoWires 7 = .ok (.invokevirtual 62, 3) := by decide +kernel
theorem dX7_planTwoWires_10 : decode cX7_planTwoWires 10 = .ok (.aload_n 2, 1) := by decide +kernel
theorem dX7_planTwoWires_11 : decode cX7_planTwoWires 11 = .ok (.iconst 0, 1) := by decide +kernel
theorem dX7_planTwoWires_12 : decode cX7_planTwoWires 12 = .ok (.iload 4, 2) := by decide +kernel
theorem dX7_planTwoWires_14 : decode cX7_planTwoWires 14 = .ok (.invokevirtual 110, 3) := by decide +kernel
theorem dX7_planTwoWires_17 : decode cX7_planTwoWires 17 = .ok (.aload_n 1, 1) := by decide +kernel
theorem dX7_planTwoWires_18 : decode cX7_planTwoWires 18 = .ok (.iconst 0, 1) := by decide +kernel
theorem dX7_planTwoWires_19 : decode cX7_planTwoWires 19 = .ok (.aload_n 0, 1) := by decide +kernel
theorem dX7_planTwoWires_20 : decode cX7_planTwoWires 20 = .ok (.iload 4, 2) := by decide +kernel
theorem dX7_planTwoWires_22 : decode cX7_planTwoWires 22 = .ok (.iload 5, 2) := by decide +kernel
theorem dX7_planTwoWires_24 : decode cX7_planTwoWires 24 = .ok (.invokevirtual 106, 3) := by decide +kernel
theorem dX7_planTwoWires_27 : decode cX7_planTwoWires 27 = .ok (.invokevirtual 110, 3) := by decide +kernel
theorem dX7_planTwoWires_30 : decode cX7_planTwoWires 30 = .ok (.iconst 0, 1) := by decide +kernel
theorem dX7_planTwoWires_31 : decode cX7_planTwoWires 31 = .ok (.istore 6, 2) := by decide +kernel
theorem dX7_planTwoWires_33 : decode cX7_planTwoWires 33 = .ok (.iload 6, 2) := by decide +kernel
theorem dX7_planTwoWires_35 : decode cX7_planTwoWires 35 = .ok (.bipush 27, 2) := by decide +kernel
theorem dX7_planTwoWires_37 : decode cX7_planTwoWires 37 = .ok (.if_icmp .ge 75, 3) := by decide +kernel
theorem dX7_planTwoWires_40 : decode cX7_planTwoWires 40 = .ok (.iconst 2, 1) := by decide +kernel
theorem dX7_planTwoWires_41 : decode cX7_planTwoWires 41 = .ok (.iload 6, 2) := by decide +kernel
theorem dX7_planTwoWires_43 : decode cX7_planTwoWires 43 = .ok (.imul, 1) := by decide +kernel
theorem dX7_planTwoWires_44 : decode cX7_planTwoWires 44 = .ok (.iconst 1, 1) := by decide +kernel
theorem dX7_planTwoWires_45 : decode cX7_planTwoWires 45 = .ok (.iadd, 1) := by decide +kernel
theorem dX7_planTwoWires_46 : decode cX7_planTwoWires 46 = .ok (.iload 5, 2) := by decide +kernel
theorem dX7_planTwoWires_48 : decode cX7_planTwoWires 48 = .ok (.imul, 1) := by decide +kernel
theorem dX7_planTwoWires_49 : decode cX7_planTwoWires 49 = .ok (.istore 7, 2) := by decide +kernel
theorem dX7_planTwoWires_51 : decode cX7_planTwoWires 51 = .ok (.aload_n 2, 1) := by decide +kernel
theorem dX7_planTwoWires_52 : decode cX7_planTwoWires 52 = .ok (.iload_n 3, 1) := by decide +kernel
theorem dX7_planTwoWires_53 : decode cX7_planTwoWires 53 = .ok (.bipush 26, 2) := by decide +kernel
theorem dX7_planTwoWires_55 : decode cX7_planTwoWires 55 = .ok (.iload 6, 2) := by decide +kernel
theorem dX7_planTwoWires_57 : decode cX7_planTwoWires 57 = .ok (.isub, 1) := by decide +kernel
theorem dX7_planTwoWires_58 : decode cX7_planTwoWires 58 = .ok (.invokestatic 102, 3) := by decide +kernel
theorem dX7_planTwoWires_61 : decode cX7_planTwoWires 61 = .ok (.aload_n 0, 1) := by decide +kernel
theorem dX7_planTwoWires_62 : decode cX7_planTwoWires 62 = .ok (.iload 4, 2) := by decide +kernel
theorem dX7_planTwoWires_64 : decode cX7_planTwoWires 64 = .ok (.iload 7, 2) := by decide +kernel
theorem dX7_planTwoWires_66 : decode cX7_planTwoWires 66 = .ok (.invokevirtual 106, 3) := by decide +kernel
theorem dX7_planTwoWires_69 : decode cX7_planTwoWires 69 = .ok (.invokevirtual 110, 3) := by decide +kernel
theorem dX7_planTwoWires_72 : decode cX7_planTwoWires 72 = .ok (.aload_n 1, 1) := by decide +kernel
theorem dX7_planTwoWires_73 : decode cX7_planTwoWires 73 = .ok (.iconst 1, 1) := by decide +kernel
theorem dX7_planTwoWires_74 : decode cX7_planTwoWires 74 = .ok (.aload_n 0, 1) := by decide +kernel
theorem dX7_planTwoWires_75 : decode cX7_planTwoWires 75 = .ok (.iload 4, 2) := by decide +kernel
theorem dX7_planTwoWires_77 : decode cX7_planTwoWires 77 = .ok (.iload 7, 2) := by decide +kernel
theorem dX7_planTwoWires_79 : decode cX7_planTwoWires 79 = .ok (.iload 5, 2) := by decide +kernel
theorem dX7_planTwoWires_81 : decode cX7_planTwoWires 81 = .ok (.iadd, 1) := by decide +kernel
theorem dX7_planTwoWires_82 : decode cX7_planTwoWires 82 = .ok (.invokevirtual 106, 3) := by decide +kernel
theorem dX7_planTwoWires_85 : decode cX7_planTwoWires 85 = .ok (.invokevirtual 110, 3) := by decide +kernel
theorem dX7_planTwoWires_88 : decode cX7_planTwoWires 88 = .ok (.aload_n 1, 1) := by decide +kernel
theorem dX7_planTwoWires_89 : decode cX7_planTwoWires 89 = .ok (.iconst 0, 1) := by decide +kernel
theorem dX7_planTwoWires_90 : decode cX7_planTwoWires 90 = .ok (.aload_n 0, 1) := by decide +kernel
theorem dX7_planTwoWires_91 : decode cX7_planTwoWires 91 = .ok (.iload 4, 2) := by decide +kernel
theorem dX7_planTwoWires_93 : decode cX7_planTwoWires 93 = .ok (.iload 7, 2) := by decide +kernel
theorem dX7_planTwoWires_95 : decode cX7_planTwoWires 95 = .ok (.iconst 2, 1) := by decide +kernel
theorem dX7_planTwoWires_96 : decode cX7_planTwoWires 96 = .ok (.iload 5, 2) := by decide +kernel
theorem dX7_planTwoWires_98 : decode cX7_planTwoWires 98 = .ok (.imul, 1) := by decide +kernel
theorem dX7_planTwoWires_99 : decode cX7_planTwoWires 99 = .ok (.iadd, 1) := by decide +kernel
theorem dX7_planTwoWires_100 : decode cX7_planTwoWires 100 = .ok (.invokevirtual 106, 3) := by decide +kernel
theorem dX7_planTwoWires_103 : decode cX7_planTwoWires 103 = .ok (.invokevirtual 110, 3) := by decide +kernel
theorem dX7_planTwoWires_106 : decode cX7_planTwoWires 106 = .ok (.iinc 6 1, 3) := by decide +kernel
theorem dX7_planTwoWires_109 : decode cX7_planTwoWires 109 = .ok (.goto (-76), 3) := by decide +kernel
theorem dX7_planTwoWires_112 : decode cX7_planTwoWires 112 = .ok (.bipush 55, 2) := by decide +kernel
theorem dX7_planTwoWires_114 : decode cX7_planTwoWires 114 = .ok (.iload 5, 2) := by decide +kernel
theorem dX7_planTwoWires_116 : decode cX7_planTwoWires 116 = .ok (.imul, 1) := by decide +kernel
theorem dX7_planTwoWires_117 : decode cX7_planTwoWires 117 = .ok (.istore 6, 2) := by decide +kernel
theorem dX7_planTwoWires_119 : decode cX7_planTwoWires 119 = .ok (.aload_n 2, 1) := by decide +kernel
theorem dX7_planTwoWires_120 : decode cX7_planTwoWires 120 = .ok (.iconst 0, 1) := by decide +kernel
theorem dX7_planTwoWires_121 : decode cX7_planTwoWires 121 = .ok (.aload_n 0, 1) := by decide +kernel
theorem dX7_planTwoWires_122 : decode cX7_planTwoWires 122 = .ok (.iload 4, 2) := by decide +kernel
theorem dX7_planTwoWires_124 : decode cX7_planTwoWires 124 = .ok (.iload 6, 2) := by decide +kernel
theorem dX7_planTwoWires_126 : decode cX7_planTwoWires 126 = .ok (.invokevirtual 106, 3) := by decide +kernel
theorem dX7_planTwoWires_129 : decode cX7_planTwoWires 129 = .ok (.invokevirtual 110, 3) := by decide +kernel
theorem dX7_planTwoWires_132 : decode cX7_planTwoWires 132 = .ok (.aload_n 1, 1) := by decide +kernel
theorem dX7_planTwoWires_133 : decode cX7_planTwoWires 133 = .ok (.iconst 1, 1) := by decide +kernel
theorem dX7_planTwoWires_134 : decode cX7_planTwoWires 134 = .ok (.aload_n 0, 1) := by decide +kernel
theorem dX7_planTwoWires_135 : decode cX7_planTwoWires 135 = .ok (.iload 4, 2) := by decide +kernel
theorem dX7_planTwoWires_137 : decode cX7_planTwoWires 137 = .ok (.iload 6, 2) := by decide +kernel
theorem dX7_planTwoWires_139 : decode cX7_planTwoWires 139 = .ok (.iload 5, 2) := by decide +kernel
theorem dX7_planTwoWires_141 : decode cX7_planTwoWires 141 = .ok (.iadd, 1) := by decide +kernel
theorem dX7_planTwoWires_142 : decode cX7_planTwoWires 142 = .ok (.invokevirtual 106, 3) := by decide +kernel
theorem dX7_planTwoWires_145 : decode cX7_planTwoWires 145 = .ok (.invokevirtual 110, 3) := by decide +kernel
theorem dX7_planTwoWires_148 : decode cX7_planTwoWires 148 = .ok (.aload_n 2, 1) := by decide +kernel
theorem dX7_planTwoWires_149 : decode cX7_planTwoWires 149 = .ok (.iconst 1, 1) := by decide +kernel
theorem dX7_planTwoWires_150 : decode cX7_planTwoWires 150 = .ok (.aload_n 0, 1) := by decide +kernel
theorem dX7_planTwoWires_151 : decode cX7_planTwoWires 151 = .ok (.iload 4, 2) := by decide +kernel
theorem dX7_planTwoWires_153 : decode cX7_planTwoWires 153 = .ok (.iload 6, 2) := by decide +kernel
theorem dX7_planTwoWires_155 : decode cX7_planTwoWires 155 = .ok (.iconst 2, 1) := by decide +kernel
theorem dX7_planTwoWires_156 : decode cX7_planTwoWires 156 = .ok (.iload 5, 2) := by decide +kernel
theorem dX7_planTwoWires_158 : decode cX7_planTwoWires 158 = .ok (.imul, 1) := by decide +kernel
theorem dX7_planTwoWires_159 : decode cX7_planTwoWires 159 = .ok (.iadd, 1) := by decide +kernel
theorem dX7_planTwoWires_160 : decode cX7_planTwoWires 160 = .ok (.invokevirtual 106, 3) := by decide +kernel
theorem dX7_planTwoWires_163 : decode cX7_planTwoWires 163 = .ok (.invokevirtual 110, 3) := by decide +kernel
theorem dX7_planTwoWires_166 : decode cX7_planTwoWires 166 = .ok (.return_, 1) := by decide +kernel
theorem dX7_planSelect_0 : decode cX7_planSelect 0 = .ok (.aload_n 0, 1) := by decide +kernel
theorem dX7_planSelect_1 : decode cX7_planSelect 1 = .ok (.iconst 1, 1) := by decide +kernel
theorem dX7_planSelect_2 : decode cX7_planSelect 2 = .ok (.invokevirtual 62, 3) := by decide +kernel
theorem dX7_planSelect_5 : decode cX7_planSelect 5 = .ok (.aload_n 0, 1) := by decide +kernel
theorem dX7_planSelect_6 : decode cX7_planSelect 6 = .ok (.iconst 0, 1) := by decide +kernel
theorem dX7_planSelect_7 : decode cX7_planSelect 7 = .ok (.iload_n 1, 1) := by decide +kernel
theorem dX7_planSelect_8 : decode cX7_planSelect 8 = .ok (.invokevirtual 110, 3) := by decide +kernel
theorem dX7_planSelect_11 : decode cX7_planSelect 11 = .ok (.aload_n 0, 1) := by decide +kernel
theorem dX7_planSelect_12 : decode cX7_planSelect 12 = .ok (.iconst 1, 1) := by decide +kernel
theorem dX7_planSelect_13 : decode cX7_planSelect 13 = .ok (.iload_n 2, 1) := by decide +kernel
theorem dX7_planSelect_14 : decode cX7_planSelect 14 = .ok (.invokevirtual 110, 3) := by decide +kernel
theorem dX7_planSelect_17 : decode cX7_planSelect 17 = .ok (.return_, 1) := by decide +kernel
theorem dX7_planFourClock_0 : decode cX7_planFourClock 0 = .ok (.aload_n 1, 1) := by decide +kernel
theorem dX7_planFourClock_1 : decode cX7_planFourClock 1 = .ok (.iload 4, 2) := by decide +kernel
theorem dX7_planFourClock_3 : decode cX7_planFourClock 3 = .ok (.invokevirtual 62, 3) := by decide +kernel
theorem dX7_planFourClock_6 : decode cX7_planFourClock 6 = .ok (.iconst 0, 1) := by decide +kernel
theorem dX7_planFourClock_7 : decode cX7_planFourClock 7 = .ok (.istore 5, 2) := by decide +kernel
theorem dX7_planFourClock_9 : decode cX7_planFourClock 9 = .ok (.iload 5, 2) := by decide +kernel
theorem dX7_planFourClock_11 : decode cX7_planFourClock 11 = .ok (.bipush 8, 2) := by decide +kernel
theorem dX7_planFourClock_13 : decode cX7_planFourClock 13 = .ok (.if_icmp .ge 55, 3) := by decide +kernel
theorem dX7_planFourClock_16 : decode cX7_planFourClock 16 = .ok (.aload_n 1, 1) := by decide +kernel
theorem dX7_planFourClock_17 : decode cX7_planFourClock 17 = .ok (.iload 4, 2) := by decide +kernel
theorem dX7_planFourClock_19 : decode cX7_planFourClock 19 = .ok (.ifCond .ne 7, 3) := by decide +kernel
theorem dX7_planFourClock_22 : decode cX7_planFourClock 22 = .ok (.iconst 1, 1) := by decide +kernel
theorem dX7_planFourClock_23 : decode cX7_planFourClock 23 = .ok (.goto 4, 3) := by decide +kernel
theorem dX7_planFourClock_26 : decode cX7_planFourClock 26 = .ok (.iconst 0, 1) := by decide +kernel
theorem dX7_planFourClock_27 : decode cX7_planFourClock 27 = .ok (.aload_n 0, 1) := by decide +kernel
theorem dX7_planFourClock_28 : decode cX7_planFourClock 28 = .ok (.iload_n 2, 1) := by decide +kernel
theorem dX7_planFourClock_29 : decode cX7_planFourClock 29 = .ok (.iconst 2, 1) := by decide +kernel
theorem dX7_planFourClock_30 : decode cX7_planFourClock 30 = .ok (.iload 5, 2) := by decide +kernel
theorem dX7_planFourClock_32 : decode cX7_planFourClock 32 = .ok (.imul, 1) := by decide +kernel
theorem dX7_planFourClock_33 : decode cX7_planFourClock 33 = .ok (.iconst 1, 1) := by decide +kernel
theorem dX7_planFourClock_34 : decode cX7_planFourClock 34 = .ok (.iadd, 1) := by decide +kernel
theorem dX7_planFourClock_35 : decode cX7_planFourClock 35 = .ok (.iload_n 3, 1) := by decide +kernel
theorem dX7_planFourClock_36 : decode cX7_planFourClock 36 = .ok (.imul, 1) := by decide +kernel
theorem dX7_planFourClock_37 : decode cX7_planFourClock 37 = .ok (.invokevirtual 106, 3) := by decide +kernel
theorem dX7_planFourClock_40 : decode cX7_planFourClock 40 = .ok (.invokevirtual 110, 3) := by decide +kernel
theorem dX7_planFourClock_43 : decode cX7_planFourClock 43 = .ok (.aload_n 1, 1) := by decide +kernel
theorem dX7_planFourClock_44 : decode cX7_planFourClock 44 = .ok (.iload 4, 2) := by decide +kernel
theorem dX7_planFourClock_46 : decode cX7_planFourClock 46 = .ok (.aload_n 0, 1) := by decide +kernel
theorem dX7_planFourClock_47 : decode cX7_planFourClock 47 = .ok (.iload_n 2, 1) := by decide +kernel
theorem dX7_planFourClock_48 : decode cX7_planFourClock 48 = .ok (.iconst 2, 1) := by decide +kernel
theorem dX7_planFourClock_49 : decode cX7_planFourClock 49 = .ok (.iload 5, 2) := by decide +kernel
theorem dX7_planFourClock_51 : decode cX7_planFourClock 51 = .ok (.imul, 1) := by decide +kernel
theorem dX7_planFourClock_52 : decode cX7_planFourClock 52 = .ok (.iconst 2, 1) := by decide +kernel
theorem dX7_planFourClock_53 : decode cX7_planFourClock 53 = .ok (.iadd, 1) := by decide +kernel
theorem dX7_planFourClock_54 : decode cX7_planFourClock 54 = .ok (.iload_n 3, 1) := by decide +kernel
theorem dX7_planFourClock_55 : decode cX7_planFourClock 55 = .ok (.imul, 1) := by decide +kernel
theorem dX7_planFourClock_56 : decode cX7_planFourClock 56 = .ok (.invokevirtual 106, 3) := by decide +kernel
theorem dX7_planFourClock_59 : decode cX7_planFourClock 59 = .ok (.invokevirtual 110, 3) := by decide +kernel
theorem dX7_planFourClock_62 : decode cX7_planFourClock 62 = .ok (.iinc 5 1, 3) := by decide +kernel
theorem dX7_planFourClock_65 : decode cX7_planFourClock 65 = .ok (.goto (-56), 3) := by decide +kernel
theorem dX7_planFourClock_68 : decode cX7_planFourClock 68 = .ok (.return_, 1) := by decide +kernel
theorem dX7_planFourData_0 : decode cX7_planFourData 0 = .ok (.aload_n 1, 1) := by decide +kernel
theorem dX7_planFourData_1 : decode cX7_planFourData 1 = .ok (.iconst 0, 1) := by decide +kernel
theorem dX7_planFourData_2 : decode cX7_planFourData 2 = .ok (.invokevirtual 62, 3) := by decide +kernel
theorem dX7_planFourData_5 : decode cX7_planFourData 5 = .ok (.iconst 0, 1) := by decide +kernel
theorem dX7_planFourData_6 : decode cX7_planFourData 6 = .ok (.istore 6, 2) := by decide +kernel
theorem dX7_planFourData_8 : decode cX7_planFourData 8 = .ok (.iload 6, 2) := by decide +kernel
theorem dX7_planFourData_10 : decode cX7_planFourData 10 = .ok (.bipush 8, 2) := by decide +kernel
theorem dX7_planFourData_12 : decode cX7_planFourData 12 = .ok (.if_icmp .ge 48, 3) := by decide +kernel
theorem dX7_planFourData_15 : decode cX7_planFourData 15 = .ok (.aload_n 1, 1) := by decide +kernel
theorem dX7_planFourData_16 : decode cX7_planFourData 16 = .ok (.iload_n 2, 1) := by decide +kernel
theorem dX7_planFourData_17 : decode cX7_planFourData 17 = .ok (.bipush 7, 2) := by decide +kernel
theorem dX7_planFourData_19 : decode cX7_planFourData 19 = .ok (.iload 6, 2) := by decide +kernel
theorem dX7_planFourData_21 : decode cX7_planFourData 21 = .ok (.isub, 1) := by decide +kernel
theorem dX7_planFourData_22 : decode cX7_planFourData 22 = .ok (.invokestatic 102, 3) := by decide +kernel
theorem dX7_planFourData_25 : decode cX7_planFourData 25 = .ok (.aload_n 0, 1) := by decide +kernel
theorem dX7_planFourData_26 : decode cX7_planFourData 26 = .ok (.iload_n 3, 1) := by decide +kernel
theorem dX7_planFourData_27 : decode cX7_planFourData 27 = .ok (.iload 5, 2) := by decide +kernel
theorem dX7_planFourData_29 : decode cX7_planFourData 29 = .ok (.ifCond .eq 12, 3) := by decide +kernel
theorem dX7_planFourData_32 : decode cX7_planFourData 32 = .ok (.iconst 2, 1) := by decide +kernel
theorem dX7_planFourData_33 : decode cX7_planFourData 33 = .ok (.iload 6, 2) := by decide +kernel
theorem dX7_planFourData_35 : decode cX7_planFourData 35 = .ok (.imul, 1) := by decide +kernel
theorem dX7_planFourData_36 : decode cX7_planFourData 36 = .ok (.iconst 1, 1) := by decide +kernel
theorem dX7_planFourData_37 : decode cX7_planFourData 37 = .ok (.iadd, 1) := by decide +kernel
theorem dX7_planFourData_38 : decode cX7_planFourData 38 = .ok (.goto 7, 3) := by decide +kernel
theorem dX7_planFourData_41 : decode cX7_planFourData 41 = .ok (.iconst 2, 1) := by decide +kernel
theorem dX7_planFourData_42 : decode cX7_planFourData 42 = .ok (.iload 6, 2) := by decide +kernel
theorem dX7_planFourData_44 : decode cX7_planFourData 44 = .ok (.imul, 1) := by decide +kernel
theorem dX7_planFourData_45 : decode cX7_planFourData 45 = .ok (.iload 4, 2) := by decide +kernel
theorem dX7_planFourData_47 : decode cX7_planFourData 47 = .ok (.imul, 1) := by decide +kernel
theorem dX7_planFourData_48 : decode cX7_planFourData 48 = .ok (.invokevirtual 106, 3) := by decide +kernel
theorem dX7_planFourData_51 : decode cX7_planFourData 51 = .ok (.invokevirtual 110, 3) := by decide +kernel
theorem dX7_planFourData_54 : decode cX7_planFourData 54 = .ok (.iinc 6 1, 3) := by decide +kernel
theorem dX7_planFourData_57 : decode cX7_planFourData 57 = .ok (.goto (-49), 3) := by decide +kernel
theorem dX7_planFourData_60 : decode cX7_planFourData 60 = .ok (.aload_n 1, 1) := by decide +kernel
theorem dX7_planFourData_61 : decode cX7_planFourData 61 = .ok (.iconst 0, 1) := by decide +kernel
theorem dX7_planFourData_62 : decode cX7_planFourData 62 = .ok (.aload_n 0, 1) := by decide +kernel
theorem dX7_planFourData_63 : decode cX7_planFourData 63 = .ok (.iload_n 3, 1) := by decide +kernel
theorem dX7_planFourData_64 : decode cX7_planFourData 64 = .ok (.bipush 17, 2) := by decide +kernel
theorem dX7_planFourData_66 : decode cX7_planFourData 66 = .ok (.iload 4, 2) := by decide +kernel
theorem dX7_planFourData_68 : decode cX7_planFourData 68 = .ok (.imul, 1) := by decide +kernel
theorem dX7_planFourData_69 : decode cX7_planFourData 69 = .ok (.invokevirtual 106, 3) := by decide +kernel
theorem dX7_planFourData_72 : decode cX7_planFourData 72 = .ok (.invokevirtual 110, 3) := by decide +kernel
theorem dX7_planFourData_75 : decode cX7_planFourData 75 = .ok (.return_, 1) := by decide +kernel
theorem dX7_shortestRunOf_0 : decode cX7_shortestRunOf 0 = .ok (.iload_n 1, 1) := by decide +kernel
theorem dX7_shortestRunOf_1 : decode cX7_shortestRunOf 1 = .ok (.invokestatic 141, 3) := by decide +kernel
theorem dX7_shortestRunOf_4 : decode cX7_shortestRunOf 4 = .ok (.iload_n 2, 1) := by decide +kernel
theorem dX7_shortestRunOf_5 : decode cX7_shortestRunOf 5 = .ok (.invokestatic 51, 3) := by decide +kernel
theorem dX7_shortestRunOf_8 : decode cX7_shortestRunOf 8 = .ok (.aload_n 0, 1) := by decide +kernel
theorem dX7_shortestRunOf_9 : decode cX7_shortestRunOf 9 = .ok (.getfield 18, 3) := by decide +kernel
theorem dX7_shortestRunOf_12 : decode cX7_shortestRunOf 12 = .ok (.iload_n 1, 1) := by decide +kernel
theorem dX7_shortestRunOf_13 : decode cX7_shortestRunOf 13 = .ok (.aaload, 1) := by decide +kernel
theorem dX7_shortestRunOf_14 : decode cX7_shortestRunOf 14 = .ok (.iload_n 2, 1) := by decide +kernel
theorem dX7_shortestRunOf_15 : decode cX7_shortestRunOf 15 = .ok (.invokevirtual 331, 3) := by decide +kernel
theorem dX7_shortestRunOf_18 : decode cX7_shortestRunOf 18 = .ok (.istore_n 3, 1) := by decide +kernel
theorem dX7_shortestRunOf_19 : decode cX7_shortestRunOf 19 = .ok (.iload_n 3, 1) := by decide +kernel
theorem dX7_shortestRunOf_20 : decode cX7_shortestRunOf 20 = .ok (.ifCond .le 7, 3) := by decide +kernel
theorem dX7_shortestRunOf_23 : decode cX7_shortestRunOf 23 = .ok (.iconst 1, 1) := by decide +kernel
theorem dX7_shortestRunOf_24 : decode cX7_shortestRunOf 24 = .ok (.goto 4, 3) := by decide +kernel
theorem dX7_shortestRunOf_27 : decode cX7_shortestRunOf 27 = .ok (.iconst 0, 1) := by decide +kernel
theorem dX7_shortestRunOf_28 : decode cX7_shortestRunOf 28 = .ok (.invokestatic 159, 3) := by decide +kernel
theorem dX7_shortestRunOf_31 : decode cX7_shortestRunOf 31 = .ok (.iload_n 3, 1) := by decide +kernel
theorem dX7_shortestRunOf_32 : decode cX7_shortestRunOf 32 = .ok (.ireturn, 1) := by decide +kernel
theorem dX7_tellSerial_0 : decode cX7_tellSerial 0 = .ok (.iload 5, 2) := by decide +kernel
theorem dX7_tellSerial_2 : decode cX7_tellSerial 2 = .ok (.invokestatic 94, 3) := by decide +kernel
theorem dX7_tellSerial_5 : decode cX7_tellSerial 5 = .ok (.istore 6, 2) := by decide +kernel
theorem dX7_tellSerial_7 : decode cX7_tellSerial 7 = .ok (.iload_n 3, 1) := by decide +kernel
theorem dX7_tellSerial_8 : decode cX7_tellSerial 8 = .ok (.iload 6, 2) := by decide +kernel
theorem dX7_tellSerial_10 : decode cX7_tellSerial 10 = .ok (.iconst 1, 1) := by decide +kernel
theorem dX7_tellSerial_11 : decode cX7_tellSerial 11 = .ok (.isub, 1) := by decide +kernel
theorem dX7_tellSerial_12 : decode cX7_tellSerial 12 = .ok (.iload 4, 2) := by decide +kernel
theorem dX7_tellSerial_14 : decode cX7_tellSerial 14 = .ok (.invokestatic 334, 3) := by decide +kernel
theorem dX7_tellSerial_17 : decode cX7_tellSerial 17 = .ok (.istore 7, 2) := by decide +kernel
theorem dX7_tellSerial_19 : decode cX7_tellSerial 19 = .ok (.iload 7, 2) := by decide +kernel
theorem dX7_tellSerial_21 : decode cX7_tellSerial 21 = .ok (.aload_n 1, 1) := by decide +kernel
theorem dX7_tellSerial_22 : decode cX7_tellSerial 22 = .ok (.getfield 155, 3) := by decide +kernel
theorem dX7_tellSerial_25 : decode cX7_tellSerial 25 = .ok (.if_icmp .ge 18, 3) := by decide +kernel
theorem dX7_tellSerial_28 : decode cX7_tellSerial 28 = .ok (.aload_n 1, 1) := by decide +kernel
theorem dX7_tellSerial_29 : decode cX7_tellSerial 29 = .ok (.iload_n 2, 1) := by decide +kernel
theorem dX7_tellSerial_30 : decode cX7_tellSerial 30 = .ok (.iload_n 3, 1) := by decide +kernel
theorem dX7_tellSerial_31 : decode cX7_tellSerial 31 = .ok (.iconst 0, 1) := by decide +kernel
theorem dX7_tellSerial_32 : decode cX7_tellSerial 32 = .ok (.iload 4, 2) := by decide +kernel
theorem dX7_tellSerial_34 : decode cX7_tellSerial 34 = .ok (.invokestatic 334, 3) := by decide +kernel
theorem dX7_tellSerial_37 : decode cX7_tellSerial 37 = .ok (.invokevirtual 216, 3) := by decide +kernel
theorem dX7_tellSerial_40 : decode cX7_tellSerial 40 = .ok (.ifCond .eq 7, 3) := by decide +kernel
theorem dX7_tellSerial_43 : decode cX7_tellSerial 43 = .ok (.iload_n 3, 1) := by decide +kernel
theorem dX7_tellSerial_44 : decode cX7_tellSerial 44 = .ok (.iconst 1, 1) := by decide +kernel
theorem dX7_tellSerial_45 : decode cX7_tellSerial 45 = .ok (.iadd, 1) := by decide +kernel
theorem dX7_tellSerial_46 : decode cX7_tellSerial 46 = .ok (.ireturn, 1) := by decide +kernel
theorem dX7_tellSerial_47 : decode cX7_tellSerial 47 = .ok (.iconst 0, 1) := by decide +kernel
theorem dX7_tellSerial_48 : decode cX7_tellSerial 48 = .ok (.istore 8, 2) := by decide +kernel
theorem dX7_tellSerial_50 : decode cX7_tellSerial 50 = .ok (.iconst 0, 1) := by decide +kernel
theorem dX7_tellSerial_51 : decode cX7_tellSerial 51 = .ok (.istore 9, 2) := by decide +kernel
theorem dX7_tellSerial_53 : decode cX7_tellSerial 53 = .ok (.iload 9, 2) := by decide +kernel
theorem dX7_tellSerial_55 : decode cX7_tellSerial 55 = .ok (.bipush 8, 2) := by decide +kernel
theorem dX7_tellSerial_57 : decode cX7_tellSerial 57 = .ok (.if_icmp .ge 36, 3) := by decide +kernel
theorem dX7_tellSerial_60 : decode cX7_tellSerial 60 = .ok (.aload_n 1, 1) := by decide +kernel
theorem dX7_tellSerial_61 : decode cX7_tellSerial 61 = .ok (.iload_n 2, 1) := by decide +kernel
theorem dX7_tellSerial_62 : decode cX7_tellSerial 62 = .ok (.iload_n 3, 1) := by decide +kernel
theorem dX7_tellSerial_63 : decode cX7_tellSerial 63 = .ok (.iload 9, 2) := by decide +kernel
theorem dX7_tellSerial_65 : decode cX7_tellSerial 65 = .ok (.iconst 1, 1) := by decide +kernel
theorem dX7_tellSerial_66 : decode cX7_tellSerial 66 = .ok (.iadd, 1) := by decide +kernel
theorem dX7_tellSerial_67 : decode cX7_tellSerial 67 = .ok (.iload 4, 2) := by decide +kernel
theorem dX7_tellSerial_69 : decode cX7_tellSerial 69 = .ok (.invokestatic 334, 3) := by decide +kernel
theorem dX7_tellSerial_72 : decode cX7_tellSerial 72 = .ok (.invokevirtual 216, 3) := by decide +kernel
theorem dX7_tellSerial_75 : decode cX7_tellSerial 75 = .ok (.ifCond .eq 12, 3) := by decide +kernel
theorem dX7_tellSerial_78 : decode cX7_tellSerial 78 = .ok (.iload 8, 2) := by decide +kernel
theorem dX7_tellSerial_80 : decode cX7_tellSerial 80 = .ok (.iconst 1, 1) := by decide +kernel
theorem dX7_tellSerial_81 : decode cX7_tellSerial 81 = .ok (.iload 9, 2) := by decide +kernel
theorem dX7_tellSerial_83 : decode cX7_tellSerial 83 = .ok (.ishl, 1) := by decide +kernel
theorem dX7_tellSerial_84 : decode cX7_tellSerial 84 = .ok (.ior, 1) := by decide +kernel
theorem dX7_tellSerial_85 : decode cX7_tellSerial 85 = .ok (.istore 8, 2) := by decide +kernel
theorem dX7_tellSerial_87 : decode cX7_tellSerial 87 = .ok (.iinc 9 1, 3) := by decide +kernel
theorem dX7_tellSerial_90 : decode cX7_tellSerial 90 = .ok (.goto (-37), 3) := by decide +kernel
theorem dX7_tellSerial_93 : decode cX7_tellSerial 93 = .ok (.bipush 45, 2) := by decide +kernel
theorem dX7_tellSerial_95 : decode cX7_tellSerial 95 = .ok (.istore 9, 2) := by decide +kernel
theorem dX7_tellSerial_97 : decode cX7_tellSerial 97 = .ok (.aload_n 1, 1) := by decide +kernel
theorem dX7_tellSerial_98 : decode cX7_tellSerial 98 = .ok (.iload_n 2, 1) := by decide +kernel
theorem dX7_tellSerial_99 : decode cX7_tellSerial 99 = .ok (.iload_n 3, 1) := by decide +kernel
theorem dX7_tellSerial_100 : decode cX7_tellSerial 100 = .ok (.bipush 9, 2) := by decide +kernel
theorem dX7_tellSerial_102 : decode cX7_tellSerial 102 = .ok (.iload 4, 2) := by decide +kernel
theorem dX7_tellSerial_104 : decode cX7_tellSerial 104 = .ok (.invokestatic 334, 3) := by decide +kernel
theorem dX7_tellSerial_107 : decode cX7_tellSerial 107 = .ok (.invokevirtual 216, 3) := by decide +kernel
theorem dX7_tellSerial_110 : decode cX7_tellSerial 110 = .ok (.istore 10, 2) := by decide +kernel
theorem dX7_tellSerial_112 : decode cX7_tellSerial 112 = .ok (.iload 5, 2) := by decide +kernel
theorem dX7_tellSerial_114 : decode cX7_tellSerial 114 = .ok (.bipush 110, 2) := by decide +kernel
theorem dX7_tellSerial_116 : decode cX7_tellSerial 116 = .ok (.if_icmp .eq 31, 3) := by decide +kernel
theorem dX7_tellSerial_119 : decode cX7_tellSerial 119 = .ok (.iload 10, 2) := by decide +kernel
theorem dX7_tellSerial_121 : decode cX7_tellSerial 121 = .ok (.iload 8, 2) := by decide +kernel
theorem dX7_tellSerial_123 : decode cX7_tellSerial 123 = .ok (.iload 5, 2) := by decide +kernel
theorem dX7_tellSerial_125 : decode cX7_tellSerial 125 = .ok (.invokestatic 328, 3) := by decide +kernel
theorem dX7_tellSerial_128 : decode cX7_tellSerial 128 = .ok (.iconst 1, 1) := by decide +kernel
theorem dX7_tellSerial_129 : decode cX7_tellSerial 129 = .ok (.if_icmp .ne 7, 3) := by decide +kernel
theorem dX7_tellSerial_132 : decode cX7_tellSerial 132 = .ok (.iconst 1, 1) := by decide +kernel
theorem dX7_tellSerial_133 : decode cX7_tellSerial 133 = .ok (.goto 4, 3) := by decide +kernel
theorem dX7_tellSerial_136 : decode cX7_tellSerial 136 = .ok (.iconst 0, 1) := by decide +kernel
theorem dX7_tellSerial_137 : decode cX7_tellSerial 137 = .ok (.if_icmp .eq 10, 3) := by decide +kernel
theorem dX7_tellSerial_140 : decode cX7_tellSerial 140 = .ok (.bipush 112, 2) := by decide +kernel
theorem dX7_tellSerial_142 : decode cX7_tellSerial 142 = .ok (.istore 9, 2) := by decide +kernel
theorem dX7_tellSerial_144 : decode cX7_tellSerial 144 = .ok (.goto 17, 3) := by decide +kernel
theorem dX7_tellSerial_147 : decode cX7_tellSerial 147 = .ok (.aload_n 1, 1) := by decide +kernel
theorem dX7_tellSerial_148 : decode cX7_tellSerial 148 = .ok (.iload_n 2, 1) := by decide +kernel
theorem dX7_tellSerial_149 : decode cX7_tellSerial 149 = .ok (.iload 7, 2) := by decide +kernel
theorem dX7_tellSerial_151 : decode cX7_tellSerial 151 = .ok (.invokevirtual 216, 3) := by decide +kernel
theorem dX7_tellSerial_154 : decode cX7_tellSerial 154 = .ok (.ifCond .ne 7, 3) := by decide +kernel
theorem dX7_tellSerial_157 : decode cX7_tellSerial 157 = .ok (.bipush 102, 2) := by decide +kernel
theorem dX7_tellSerial_159 : decode cX7_tellSerial 159 = .ok (.istore 9, 2) := by decide +kernel
theorem dX7_tellSerial_161 : decode cX7_tellSerial 161 = .ok (.aload_n 0, 1) := by decide +kernel
theorem dX7_tellSerial_162 : decode cX7_tellSerial 162 = .ok (.getfield 33, 3) := by decide +kernel
theorem dX7_tellSerial_165 : decode cX7_tellSerial 165 = .ok (.bipush 66, 2) := by decide +kernel
theorem dX7_tellSerial_167 : decode cX7_tellSerial 167 = .ok (.iload_n 3, 1) := by decide +kernel
theorem dX7_tellSerial_168 : decode cX7_tellSerial 168 = .ok (.iload 7, 2) := by decide +kernel
theorem dX7_tellSerial_170 : decode cX7_tellSerial 170 = .ok (.iload 8, 2) := by decide +kernel
theorem dX7_tellSerial_172 : decode cX7_tellSerial 172 = .ok (.iload 9, 2) := by decide +kernel
theorem dX7_tellSerial_174 : decode cX7_tellSerial 174 = .ok (.invokevirtual 338, 3) := by decide +kernel
theorem dX7_tellSerial_177 : decode cX7_tellSerial 177 = .ok (.iload 7, 2) := by decide +kernel
theorem dX7_tellSerial_179 : decode cX7_tellSerial 179 = .ok (.iconst 1, 1) := by decide +kernel
theorem dX7_tellSerial_180 : decode cX7_tellSerial 180 = .ok (.iadd, 1) := by decide +kernel
theorem dX7_tellSerial_181 : decode cX7_tellSerial 181 = .ok (.ireturn, 1) := by decide +kernel
theorem dX7_middleOf_0 : decode cX7_middleOf 0 = .ok (.iload_n 0, 1) := by decide +kernel
theorem dX7_middleOf_1 : decode cX7_middleOf 1 = .ok (.iconst 2, 1) := by decide +kernel
theorem dX7_middleOf_2 : decode cX7_middleOf 2 = .ok (.iload_n 1, 1) := by decide +kernel
theorem dX7_middleOf_3 : decode cX7_middleOf 3 = .ok (.imul, 1) := by decide +kernel
theorem dX7_middleOf_4 : decode cX7_middleOf 4 = .ok (.iconst 1, 1) := by decide +kernel
theorem dX7_middleOf_5 : decode cX7_middleOf 5 = .ok (.iadd, 1) := by decide +kernel
theorem dX7_middleOf_6 : decode cX7_middleOf 6 = .ok (.iload_n 2, 1) := by decide +kernel
theorem dX7_middleOf_7 : decode cX7_middleOf 7 = .ok (.imul, 1) := by decide +kernel
theorem dX7_middleOf_8 : decode cX7_middleOf 8 = .ok (.bipush 20, 2) := by decide +kernel
theorem dX7_middleOf_10 : decode cX7_middleOf 10 = .ok (.idiv, 1) := by decide +kernel
theorem dX7_middleOf_11 : decode cX7_middleOf 11 = .ok (.iadd, 1) := by decide +kernel
theorem dX7_middleOf_12 : decode cX7_middleOf 12 = .ok (.ireturn, 1) := by decide +kernel
theorem dX7_alikeCount_0 : decode cX7_alikeCount 0 = .ok (.iconst 0, 1) := by decide +kernel
theorem dX7_alikeCount_1 : decode cX7_alikeCount 1 = .ok (.istore_n 2, 1) := by decide +kernel
theorem dX7_alikeCount_2 : decode cX7_alikeCount 2 = .ok (.iconst 0, 1) := by decide +kernel
theorem dX7_alikeCount_3 : decode cX7_alikeCount 3 = .ok (.istore_n 3, 1) := by decide +kernel
theorem dX7_alikeCount_4 : decode cX7_alikeCount 4 = .ok (.iload_n 3, 1) := by decide +kernel
theorem dX7_alikeCount_5 : decode cX7_alikeCount 5 = .ok (.aload_n 0, 1) := by decide +kernel
theorem dX7_alikeCount_6 : decode cX7_alikeCount 6 = .ok (.getfield 18, 3) := by decide +kernel
theorem dX7_alikeCount_9 : decode cX7_alikeCount 9 = .ok (.iconst 0, 1) := by decide +kernel
theorem dX7_alikeCount_10 : decode cX7_alikeCount 10 = .ok (.aaload, 1) := by decide +kernel
theorem dX7_alikeCount_11 : decode cX7_alikeCount 11 = .ok (.getfield 155, 3) := by decide +kernel
theorem dX7_alikeCount_14 : decode cX7_alikeCount 14 = .ok (.if_icmp .ge 52, 3) := by decide +kernel
theorem dX7_alikeCount_17 : decode cX7_alikeCount 17 = .ok (.aload_n 0, 1) := by decide +kernel
theorem dX7_alikeCount_18 : decode cX7_alikeCount 18 = .ok (.getfield 18, 3) := by decide +kernel
theorem dX7_alikeCount_21 : decode cX7_alikeCount 21 = .ok (.iconst 1, 1) := by decide +kernel
theorem dX7_alikeCount_22 : decode cX7_alikeCount 22 = .ok (.aaload, 1) := by decide +kernel
theorem dX7_alikeCount_23 : decode cX7_alikeCount 23 = .ok (.iload_n 3, 1) := by decide +kernel
theorem dX7_alikeCount_24 : decode cX7_alikeCount 24 = .ok (.iload_n 1, 1) := by decide +kernel
theorem dX7_alikeCount_25 : decode cX7_alikeCount 25 = .ok (.iadd, 1) := by decide +kernel
theorem dX7_alikeCount_26 : decode cX7_alikeCount 26 = .ok (.invokevirtual 156, 3) := by decide +kernel
theorem dX7_alikeCount_29 : decode cX7_alikeCount 29 = .ok (.ifCond .eq 31, 3) := by decide +kernel
theorem dX7_alikeCount_32 : decode cX7_alikeCount 32 = .ok (.aload_n 0, 1) := by decide +kernel
theorem dX7_alikeCount_33 : decode cX7_alikeCount 33 = .ok (.getfield 18, 3) := by decide +kernel
theorem dX7_alikeCount_36 : decode cX7_alikeCount 36 = .ok (.iconst 0, 1) := by decide +kernel
theorem dX7_alikeCount_37 : decode cX7_alikeCount 37 = .ok (.aaload, 1) := by decide +kernel
theorem dX7_alikeCount_38 : decode cX7_alikeCount 38 = .ok (.iload_n 3, 1) := by decide +kernel
theorem dX7_alikeCount_39 : decode cX7_alikeCount 39 = .ok (.invokevirtual 162, 3) := by decide +kernel
theorem dX7_alikeCount_42 : decode cX7_alikeCount 42 = .ok (.aload_n 0, 1) := by decide +kernel
theorem dX7_alikeCount_43 : decode cX7_alikeCount 43 = .ok (.getfield 18, 3) := by decide +kernel
theorem dX7_alikeCount_46 : decode cX7_alikeCount 46 = .ok (.iconst 1, 1) := by decide +kernel
theorem dX7_alikeCount_47 : decode cX7_alikeCount 47 = .ok (.aaload, 1) := by decide +kernel
theorem dX7_alikeCount_48 : decode cX7_alikeCount 48 = .ok (.iload_n 3, 1) := by decide +kernel
theorem dX7_alikeCount_49 : decode cX7_alikeCount 49 = .ok (.iload_n 1, 1) := by decide +kernel
theorem dX7_alikeCount_50 : decode cX7_alikeCount 50 = .ok (.iadd, 1) := by decide +kernel
theorem dX7_alikeCount_51 : decode cX7_alikeCount 51 = .ok (.invokevirtual 162, 3) := by decide +kernel
theorem dX7_alikeCount_54 : decode cX7_alikeCount 54 = .ok (.if_icmp .ne 6, 3) := by decide +kernel
theorem dX7_alikeCount_57 : decode cX7_alikeCount 57 = .ok (.iinc 2 1, 3) := by decide +kernel
theorem dX7_alikeCount_60 : decode cX7_alikeCount 60 = .ok (.iinc 3 1, 3) := by decide +kernel
theorem dX7_alikeCount_63 : decode cX7_alikeCount 63 = .ok (.goto (-59), 3) := by decide +kernel
theorem dX7_alikeCount_66 : decode cX7_alikeCount 66 = .ok (.iload_n 2, 1) := by decide +kernel
theorem dX7_alikeCount_67 : decode cX7_alikeCount 67 = .ok (.ireturn, 1) := by decide +kernel
theorem dX7_firstUnlike_0 : decode cX7_firstUnlike 0 = .ok (.iconst 0, 1) := by decide +kernel
theorem dX7_firstUnlike_1 : decode cX7_firstUnlike 1 = .ok (.istore_n 2, 1) := by decide +kernel
theorem dX7_firstUnlike_2 : decode cX7_firstUnlike 2 = .ok (.iload_n 2, 1) := by decide +kernel
theorem dX7_firstUnlike_3 : decode cX7_firstUnlike 3 = .ok (.aload_n 0, 1) := by decide +kernel
theorem dX7_firstUnlike_4 : decode cX7_firstUnlike 4 = .ok (.getfield 18, 3) := by decide +kernel
theorem dX7_firstUnlike_7 : decode cX7_firstUnlike 7 = .ok (.iconst 0, 1) := by decide +kernel
theorem dX7_firstUnlike_8 : decode cX7_firstUnlike 8 = .ok (.aaload, 1) := by decide +kernel
theorem dX7_firstUnlike_9 : decode cX7_firstUnlike 9 = .ok (.getfield 155, 3) := by decide +kernel
theorem dX7_firstUnlike_12 : decode cX7_firstUnlike 12 = .ok (.if_icmp .ge 51, 3) := by decide +kernel
theorem dX7_firstUnlike_15 : decode cX7_firstUnlike 15 = .ok (.aload_n 0, 1) := by decide +kernel
theorem dX7_firstUnlike_16 : decode cX7_firstUnlike 16 = .ok (.getfield 18, 3) := by decide +kernel
theorem dX7_firstUnlike_19 : decode cX7_firstUnlike 19 = .ok (.iconst 1, 1) := by decide +kernel
theorem dX7_firstUnlike_20 : decode cX7_firstUnlike 20 = .ok (.aaload, 1) := by decide +kernel
theorem dX7_firstUnlike_21 : decode cX7_firstUnlike 21 = .ok (.iload_n 2, 1) := by decide +kernel
theorem dX7_firstUnlike_22 : decode cX7_firstUnlike 22 = .ok (.iload_n 1, 1) := by decide +kernel
theorem dX7_firstUnlike_23 : decode cX7_firstUnlike 23 = .ok (.iadd, 1) := by decide +kernel
theorem dX7_firstUnlike_24 : decode cX7_firstUnlike 24 = .ok (.invokevirtual 156, 3) := by decide +kernel
theorem dX7_firstUnlike_27 : decode cX7_firstUnlike 27 = .ok (.ifCond .eq 30, 3) := by decide +kernel
theorem dX7_firstUnlike_30 : decode cX7_firstUnlike 30 = .ok (.aload_n 0, 1) := by decide +kernel
theorem dX7_firstUnlike_31 : decode cX7_firstUnlike 31 = .ok (.getfield 18, 3) := by decide +kernel
theorem dX7_firstUnlike_34 : decode cX7_firstUnlike 34 = .ok (.iconst 0, 1) := by decide +kernel
theorem dX7_firstUnlike_35 : decode cX7_firstUnlike 35 = .ok (.aaload, 1) := by decide +kernel
theorem dX7_firstUnlike_36 : decode cX7_firstUnlike 36 = .ok (.iload_n 2, 1) := by decide +kernel
theorem dX7_firstUnlike_37 : decode cX7_firstUnlike 37 = .ok (.invokevirtual 162, 3) := by decide +kernel
theorem dX7_firstUnlike_40 : decode cX7_firstUnlike 40 = .ok (.aload_n 0, 1) := by decide +kernel
theorem dX7_firstUnlike_41 : decode cX7_firstUnlike 41 = .ok (.getfield 18, 3) := by decide +kernel
theorem dX7_firstUnlike_44 : decode cX7_firstUnlike 44 = .ok (.iconst 1, 1) := by decide +kernel
theorem dX7_firstUnlike_45 : decode cX7_firstUnlike 45 = .ok (.aaload, 1) := by decide +kernel
theorem dX7_firstUnlike_46 : decode cX7_firstUnlike 46 = .ok (.iload_n 2, 1) := by decide +kernel
theorem dX7_firstUnlike_47 : decode cX7_firstUnlike 47 = .ok (.iload_n 1, 1) := by decide +kernel
theorem dX7_firstUnlike_48 : decode cX7_firstUnlike 48 = .ok (.iadd, 1) := by decide +kernel
theorem dX7_firstUnlike_49 : decode cX7_firstUnlike 49 = .ok (.invokevirtual 162, 3) := by decide +kernel
theorem dX7_firstUnlike_52 : decode cX7_firstUnlike 52 = .ok (.if_icmp .eq 5, 3) := by decide +kernel
theorem dX7_firstUnlike_55 : decode cX7_firstUnlike 55 = .ok (.iload_n 2, 1) := by decide +kernel
theorem dX7_firstUnlike_56 : decode cX7_firstUnlike 56 = .ok (.ireturn, 1) := by decide +kernel
theorem dX7_firstUnlike_57 : decode cX7_firstUnlike 57 = .ok (.iinc 2 1, 3) := by decide +kernel
theorem dX7_firstUnlike_60 : decode cX7_firstUnlike 60 = .ok (.goto (-58), 3) := by decide +kernel
theorem dX7_firstUnlike_63 : decode cX7_firstUnlike 63 = .ok (.iconst (-1), 1) := by decide +kernel
theorem dX7_firstUnlike_64 : decode cX7_firstUnlike 64 = .ok (.ireturn, 1) := by decide +kernel
