theorem dX4_init_0 : decode cX4_init 0 = .ok (.aload_n 0, 1) := by decide +kernel
theorem dX4_init_1 : decode cX4_init 1 = .ok (.invokespecial 1, 3) := by decide +kernel
theorem dX4_init_4 : decode cX4_init 4 = .ok (.aload_n 0, 1) := by decide +kernel
theorem dX4_init_5 : decode cX4_init 5 = .ok (.new 7, 3) := by decide +kernel
theorem dX4_init_8 : decode cX4_init 8 = .ok (.dup, 1) := by decide +kernel
theorem dX4_init_9 : decode cX4_init 9 = .ok (.invokespecial 9, 3) := by decide +kernel
theorem dX4_init_12 : decode cX4_init 12 = .ok (.putfield 10, 3) := by decide +kernel
theorem dX4_init_15 : decode cX4_init 15 = .ok (.aload_n 0, 1) := by decide +kernel
theorem dX4_init_16 : decode cX4_init 16 = .ok (.new 7, 3) := by decide +kernel
theorem dX4_init_19 : decode cX4_init 19 = .ok (.dup, 1) := by decide +kernel
theorem dX4_init_20 : decode cX4_init 20 = .ok (.invokespecial 9, 3) := by decide +kernel
theorem dX4_init_23 : decode cX4_init 23 = .ok (.putfield 16, 3) := by decide +kernel
theorem dX4_init_26 : decode cX4_init 26 = .ok (.aload_n 0, 1) := by decide +kernel
theorem dX4_init_27 : decode cX4_init 27 = .ok (.new 7, 3) := by decide +kernel
theorem dX4_init_30 : decode cX4_init 30 = .ok (.dup, 1) := by decide +kernel
theorem dX4_init_31 : decode cX4_init 31 = .ok (.invokespecial 9, 3) := by decide +kernel
theorem dX4_init_34 : decode cX4_init 34 = .ok (.putfield 19, 3) := by decide +kernel
theorem dX4_init_37 : decode cX4_init 37 = .ok (.aload_n 0, 1) := by decide +kernel
theorem dX4_init_38 : decode cX4_init 38 = .ok (.new 22, 3) := by decide +kernel
theorem dX4_init_41 : decode cX4_init 41 = .ok (.dup, 1) := by decide +kernel
theorem dX4_init_42 : decode cX4_init 42 = .ok (.invokespecial 24, 3) := by decide +kernel
theorem dX4_init_45 : decode cX4_init 45 = .ok (.putfield 25, 3) := by decide +kernel
theorem dX4_init_48 : decode cX4_init 48 = .ok (.aload_n 0, 1) := by decide +kernel
theorem dX4_init_49 : decode cX4_init 49 = .ok (.iconst 4, 1) := by decide +kernel
theorem dX4_init_50 : decode cX4_init 50 = .ok (.anewarray 29, 3) := by decide +kernel
theorem dX4_init_53 : decode cX4_init 53 = .ok (.putfield 31, 3) := by decide +kernel
theorem dX4_init_56 : decode cX4_init 56 = .ok (.iconst 0, 1) := by decide +kernel
theorem dX4_init_57 : decode cX4_init 57 = .ok (.istore_n 1, 1) := by decide +kernel
theorem dX4_init_58 : decode cX4_init 58 = .ok (.iload_n 1, 1) := by decide +kernel
theorem dX4_init_59 : decode cX4_init 59 = .ok (.iconst 4, 1) := by decide +kernel
theorem dX4_init_60 : decode cX4_init 60 = .ok (.if_icmp .ge 22, 3) := by decide +kernel
theorem dX4_init_63 : decode cX4_init 63 = .ok (.aload_n 0, 1) := by decide +kernel
theorem dX4_init_64 : decode cX4_init 64 = .ok (.getfield 31, 3) := by decide +kernel
theorem dX4_init_67 : decode cX4_init 67 = .ok (.iload_n 1, 1) := by decide +kernel
theorem dX4_init_68 : decode cX4_init 68 = .ok (.new 29, 3) := by decide +kernel
theorem dX4_init_71 : decode cX4_init 71 = .ok (.dup, 1) := by decide +kernel
theorem dX4_init_72 : decode cX4_init 72 = .ok (.invokespecial 35, 3) := by decide +kernel
theorem dX4_init_75 : decode cX4_init 75 = .ok (.aastore, 1) := by decide +kernel
theorem dX4_init_76 : decode cX4_init 76 = .ok (.iinc 1 1, 3) := by decide +kernel
theorem dX4_init_79 : decode cX4_init 79 = .ok (.goto (-21), 3) := by decide +kernel
theorem dX4_init_82 : decode cX4_init 82 = .ok (.aload_n 0, 1) := by decide +kernel
theorem dX4_init_83 : decode cX4_init 83 = .ok (.bipush 7, 2) := by decide +kernel
theorem dX4_init_85 : decode cX4_init 85 = .ok (.newarray .int, 2) := by decide +kernel
theorem dX4_init_87 : decode cX4_init 87 = .ok (.putfield 36, 3) := by decide +kernel
theorem dX4_init_90 : decode cX4_init 90 = .ok (.aload_n 0, 1) := by decide +kernel
theorem dX4_init_91 : decode cX4_init 91 = .ok (.iconst 0, 1) := by decide +kernel
theorem dX4_init_92 : decode cX4_init 92 = .ok (.putfield 40, 3) := by decide +kernel
theorem dX4_init_95 : decode cX4_init 95 = .ok (.return_, 1) := by decide +kernel
theorem dX4_thing_0 : decode cX4_thing 0 = .ok (.iload_n 1, 1) := by decide +kernel
theorem dX4_thing_1 : decode cX4_thing 1 = .ok (.iload_n 2, 1) := by decide +kernel
theorem dX4_thing_2 : decode cX4_thing 2 = .ok (.invokestatic 44, 3) := by decide +kernel
theorem dX4_thing_5 : decode cX4_thing 5 = .ok (.ifCond .eq 12, 3) := by decide +kernel
theorem dX4_thing_8 : decode cX4_thing 8 = .ok (.iload_n 3, 1) := by decide +kernel
theorem dX4_thing_9 : decode cX4_thing 9 = .ok (.iconst 0, 1) := by decide +kernel
theorem dX4_thing_10 : decode cX4_thing 10 = .ok (.iconst 4, 1) := by decide +kernel
theorem dX4_thing_11 : decode cX4_thing 11 = .ok (.invokestatic 48, 3) := by decide +kernel
theorem dX4_thing_14 : decode cX4_thing 14 = .ok (.ifCond .ne 10, 3) := by decide +kernel
theorem dX4_thing_17 : decode cX4_thing 17 = .ok (.aload_n 0, 1) := by decide +kernel
theorem dX4_thing_18 : decode cX4_thing 18 = .ok (.ldc 52, 2) := by decide +kernel
theorem dX4_thing_20 : decode cX4_thing 20 = .ok (.invokevirtual 53, 3) := by decide +kernel
theorem dX4_thing_23 : decode cX4_thing 23 = .ok (.ireturn, 1) := by decide +kernel
theorem dX4_thing_24 : decode cX4_thing 24 = .ok (.aload_n 0, 1) := by decide +kernel
theorem dX4_thing_25 : decode cX4_thing 25 = .ok (.getfield 10, 3) := by decide +kernel
theorem dX4_thing_28 : decode cX4_thing 28 = .ok (.getfield 57, 3) := by decide +kernel
theorem dX4_thing_31 : decode cX4_thing 31 = .ok (.iload_n 1, 1) := by decide +kernel
theorem dX4_thing_32 : decode cX4_thing 32 = .ok (.iload_n 2, 1) := by decide +kernel
theorem dX4_thing_33 : decode cX4_thing 33 = .ok (.invokestatic 60, 3) := by decide +kernel
theorem dX4_thing_36 : decode cX4_thing 36 = .ok (.iaload, 1) := by decide +kernel
theorem dX4_thing_37 : decode cX4_thing 37 = .ok (.istore 4, 2) := by decide +kernel
theorem dX4_thing_39 : decode cX4_thing 39 = .ok (.aload_n 0, 1) := by decide +kernel
theorem dX4_thing_40 : decode cX4_thing 40 = .ok (.getfield 10, 3) := by decide +kernel
theorem dX4_thing_43 : decode cX4_thing 43 = .ok (.iload_n 1, 1) := by decide +kernel
theorem dX4_thing_44 : decode cX4_thing 44 = .ok (.iload_n 2, 1) := by decide +kernel
theorem dX4_thing_45 : decode cX4_thing 45 = .ok (.iload_n 3, 1) := by decide +kernel
theorem dX4_thing_46 : decode cX4_thing 46 = .ok (.invokevirtual 64, 3) := by decide +kernel
theorem dX4_thing_49 : decode cX4_thing 49 = .ok (.iload 4, 2) := by decide +kernel
theorem dX4_thing_51 : decode cX4_thing 51 = .ok (.ireturn, 1) := by decide +kernel
theorem dX4_stretch_0 : decode cX4_stretch 0 = .ok (.iload_n 1, 1) := by decide +kernel
theorem dX4_stretch_1 : decode cX4_stretch 1 = .ok (.iload_n 2, 1) := by decide +kernel
theorem dX4_stretch_2 : decode cX4_stretch 2 = .ok (.invokestatic 44, 3) := by decide +kernel
theorem dX4_stretch_5 : decode cX4_stretch 5 = .ok (.ifCond .eq 12, 3) := by decide +kernel
theorem dX4_stretch_8 : decode cX4_stretch 8 = .ok (.iload_n 3, 1) := by decide +kernel
theorem dX4_stretch_9 : decode cX4_stretch 9 = .ok (.iconst 0, 1) := by decide +kernel
theorem dX4_stretch_10 : decode cX4_stretch 10 = .ok (.iconst 1, 1) := by decide +kernel
theorem dX4_stretch_11 : decode cX4_stretch 11 = .ok (.invokestatic 48, 3) := by decide +kernel
theorem dX4_stretch_14 : decode cX4_stretch 14 = .ok (.ifCond .ne 10, 3) := by decide +kernel
theorem dX4_stretch_17 : decode cX4_stretch 17 = .ok (.aload_n 0, 1) := by decide +kernel
theorem dX4_stretch_18 : decode cX4_stretch 18 = .ok (.ldc 52, 2) := by decide +kernel
theorem dX4_stretch_20 : decode cX4_stretch 20 = .ok (.invokevirtual 53, 3) := by decide +kernel
theorem dX4_stretch_23 : decode cX4_stretch 23 = .ok (.ireturn, 1) := by decide +kernel
theorem dX4_stretch_24 : decode cX4_stretch 24 = .ok (.iload_n 1, 1) := by decide +kernel
theorem dX4_stretch_25 : decode cX4_stretch 25 = .ok (.iload_n 2, 1) := by decide +kernel
theorem dX4_stretch_26 : decode cX4_stretch 26 = .ok (.invokestatic 60, 3) := by decide +kernel
theorem dX4_stretch_29 : decode cX4_stretch 29 = .ok (.istore 4, 2) := by decide +kernel
theorem dX4_stretch_31 : decode cX4_stretch 31 = .ok (.iload_n 3, 1) := by decide +kernel
theorem dX4_stretch_32 : decode cX4_stretch 32 = .ok (.ifCond .ne 16, 3) := by decide +kernel
theorem dX4_stretch_35 : decode cX4_stretch 35 = .ok (.aload_n 0, 1) := by decide +kernel
theorem dX4_stretch_36 : decode cX4_stretch 36 = .ok (.getfield 10, 3) := by decide +kernel
theorem dX4_stretch_39 : decode cX4_stretch 39 = .ok (.getfield 57, 3) := by decide +kernel
theorem dX4_stretch_42 : decode cX4_stretch 42 = .ok (.iload 4, 2) := by decide +kernel
theorem dX4_stretch_44 : decode cX4_stretch 44 = .ok (.iaload, 1) := by decide +kernel
theorem dX4_stretch_45 : decode cX4_stretch 45 = .ok (.goto 13, 3) := by decide +kernel
theorem dX4_stretch_48 : decode cX4_stretch 48 = .ok (.aload_n 0, 1) := by decide +kernel
theorem dX4_stretch_49 : decode cX4_stretch 49 = .ok (.getfield 10, 3) := by decide +kernel
theorem dX4_stretch_52 : decode cX4_stretch 52 = .ok (.getfield 68, 3) := by decide +kernel
theorem dX4_stretch_55 : decode cX4_stretch 55 = .ok (.iload 4, 2) := by decide +kernel
theorem dX4_stretch_57 : decode cX4_stretch 57 = .ok (.iaload, 1) := by decide +kernel
theorem dX4_stretch_58 : decode cX4_stretch 58 = .ok (.ireturn, 1) := by decide +kernel
theorem dX4_high_0 : decode cX4_high 0 = .ok (.iload_n 1, 1) := by decide +kernel
theorem dX4_high_1 : decode cX4_high 1 = .ok (.iconst 1, 1) := by decide +kernel
theorem dX4_high_2 : decode cX4_high 2 = .ok (.bipush 6, 2) := by decide +kernel
theorem dX4_high_4 : decode cX4_high 4 = .ok (.invokestatic 48, 3) := by decide +kernel
theorem dX4_high_7 : decode cX4_high 7 = .ok (.ifCond .ne 10, 3) := by decide +kernel
theorem dX4_high_10 : decode cX4_high 10 = .ok (.aload_n 0, 1) := by decide +kernel
theorem dX4_high_11 : decode cX4_high 11 = .ok (.ldc 52, 2) := by decide +kernel
theorem dX4_high_13 : decode cX4_high 13 = .ok (.invokevirtual 53, 3) := by decide +kernel
theorem dX4_high_16 : decode cX4_high 16 = .ok (.ireturn, 1) := by decide +kernel
theorem dX4_high_17 : decode cX4_high 17 = .ok (.aload_n 0, 1) := by decide +kernel
theorem dX4_high_18 : decode cX4_high 18 = .ok (.getfield 10, 3) := by decide +kernel
theorem dX4_high_21 : decode cX4_high 21 = .ok (.getfield 71, 3) := by decide +kernel
theorem dX4_high_24 : decode cX4_high 24 = .ok (.istore_n 2, 1) := by decide +kernel
theorem dX4_high_25 : decode cX4_high 25 = .ok (.aload_n 0, 1) := by decide +kernel
theorem dX4_high_26 : decode cX4_high 26 = .ok (.getfield 10, 3) := by decide +kernel
theorem dX4_high_29 : decode cX4_high 29 = .ok (.iload_n 1, 1) := by decide +kernel
theorem dX4_high_30 : decode cX4_high 30 = .ok (.putfield 71, 3) := by decide +kernel
theorem dX4_high_33 : decode cX4_high 33 = .ok (.iload_n 2, 1) := by decide +kernel
theorem dX4_high_34 : decode cX4_high 34 = .ok (.ireturn, 1) := by decide +kernel
theorem dX4_street_0 : decode cX4_street 0 = .ok (.iload_n 1, 1) := by decide +kernel
theorem dX4_street_1 : decode cX4_street 1 = .ok (.invokestatic 75, 3) := by decide +kernel
theorem dX4_street_4 : decode cX4_street 4 = .ok (.ifCond .ne 10, 3) := by decide +kernel
theorem dX4_street_7 : decode cX4_street 7 = .ok (.aload_n 0, 1) := by decide +kernel
theorem dX4_street_8 : decode cX4_street 8 = .ok (.ldc 52, 2) := by decide +kernel
theorem dX4_street_10 : decode cX4_street 10 = .ok (.invokevirtual 53, 3) := by decide +kernel
theorem dX4_street_13 : decode cX4_street 13 = .ok (.ireturn, 1) := by decide +kernel
theorem dX4_street_14 : decode cX4_street 14 = .ok (.iload_n 2, 1) := by decide +kernel
theorem dX4_street_15 : decode cX4_street 15 = .ok (.tableswitch 65 0 3 #[29, 38, 47, 56], 29) := by decide +kernel
theorem dX4_street_44 : decode cX4_street 44 = .ok (.aload_n 0, 1) := by decide +kernel
theorem dX4_street_45 : decode cX4_street 45 = .ok (.getfield 10, 3) := by decide +kernel
theorem dX4_street_48 : decode cX4_street 48 = .ok (.iload_n 1, 1) := by decide +kernel
theorem dX4_street_49 : decode cX4_street 49 = .ok (.invokevirtual 79, 3) := by decide +kernel
theorem dX4_street_52 : decode cX4_street 52 = .ok (.ireturn, 1) := by decide +kernel
theorem dX4_street_53 : decode cX4_street 53 = .ok (.aload_n 0, 1) := by decide +kernel
theorem dX4_street_54 : decode cX4_street 54 = .ok (.getfield 10, 3) := by decide +kernel
theorem dX4_street_57 : decode cX4_street 57 = .ok (.iload_n 1, 1) := by decide +kernel
theorem dX4_street_58 : decode cX4_street 58 = .ok (.invokevirtual 82, 3) := by decide +kernel
theorem dX4_street_61 : decode cX4_street 61 = .ok (.ireturn, 1) := by decide +kernel
theorem dX4_street_62 : decode cX4_street 62 = .ok (.aload_n 0, 1) := by decide +kernel
theorem dX4_street_63 : decode cX4_street 63 = .ok (.getfield 10, 3) := by decide +kernel
theorem dX4_street_66 : decode cX4_street 66 = .ok (.iload_n 1, 1) := by decide +kernel
theorem dX4_street_67 : decode cX4_street 67 = .ok (.invokevirtual 85, 3) := by decide +kernel
theorem dX4_street_70 : decode cX4_street 70 = .ok (.ireturn, 1) := by decide +kernel
theorem dX4_street_71 : decode cX4_street 71 = .ok (.aload_n 0, 1) := by decide +kernel
theorem dX4_street_72 : decode cX4_street 72 = .ok (.getfield 10, 3) := by decide +kernel
theorem dX4_street_75 : decode cX4_street 75 = .ok (.iload_n 1, 1) := by decide +kernel
theorem dX4_street_76 : decode cX4_street 76 = .ok (.invokevirtual 88, 3) := by decide +kernel
theorem dX4_street_79 : decode cX4_street 79 = .ok (.ireturn, 1) := by decide +kernel
theorem dX4_street_80 : decode cX4_street 80 = .ok (.aload_n 0, 1) := by decide +kernel
theorem dX4_street_81 : decode cX4_street 81 = .ok (.ldc 52, 2) := by decide +kernel
theorem dX4_street_83 : decode cX4_street 83 = .ok (.invokevirtual 53, 3) := by decide +kernel
theorem dX4_street_86 : decode cX4_street 86 = .ok (.ireturn, 1) := by decide +kernel
theorem dX4_now_0 : decode cX4_now 0 = .ok (.iload_n 1, 1) := by decide +kernel
theorem dX4_now_1 : decode cX4_now 1 = .ok (.tableswitch 63 0 3 #[31, 39, 47, 55], 31) := by decide +kernel
theorem dX4_now_32 : decode cX4_now 32 = .ok (.aload_n 0, 1) := by decide +kernel
theorem dX4_now_33 : decode cX4_now 33 = .ok (.getfield 10, 3) := by decide +kernel
theorem dX4_now_36 : decode cX4_now 36 = .ok (.getfield 91, 3) := by decide +kernel
theorem dX4_now_39 : decode cX4_now 39 = .ok (.ireturn, 1) := by decide +kernel
theorem dX4_now_40 : decode cX4_now 40 = .ok (.aload_n 0, 1) := by decide +kernel
theorem dX4_now_41 : decode cX4_now 41 = .ok (.getfield 10, 3) := by decide +kernel
theorem dX4_now_44 : decode cX4_now 44 = .ok (.getfield 71, 3) := by decide +kernel
theorem dX4_now_47 : decode cX4_now 47 = .ok (.ireturn, 1) := by decide +kernel
theorem dX4_now_48 : decode cX4_now 48 = .ok (.aload_n 0, 1) := by decide +kernel
theorem dX4_now_49 : decode cX4_now 49 = .ok (.getfield 10, 3) := by decide +kernel
theorem dX4_now_52 : decode cX4_now 52 = .ok (.invokevirtual 94, 3) := by decide +kernel
theorem dX4_now_55 : decode cX4_now 55 = .ok (.ireturn, 1) := by decide +kernel
theorem dX4_now_56 : decode cX4_now 56 = .ok (.aload_n 0, 1) := by decide +kernel
theorem dX4_now_57 : decode cX4_now 57 = .ok (.getfield 10, 3) := by decide +kernel
theorem dX4_now_60 : decode cX4_now 60 = .ok (.invokevirtual 98, 3) := by decide +kernel
theorem dX4_now_63 : decode cX4_now 63 = .ok (.ireturn, 1) := by decide +kernel
theorem dX4_now_64 : decode cX4_now 64 = .ok (.aload_n 0, 1) := by decide +kernel
theorem dX4_now_65 : decode cX4_now 65 = .ok (.ldc 52, 2) := by decide +kernel
theorem dX4_now_67 : decode cX4_now 67 = .ok (.invokevirtual 53, 3) := by decide +kernel
theorem dX4_now_70 : decode cX4_now 70 = .ok (.ireturn, 1) := by decide +kernel
theorem dX4_driver_0 : decode cX4_driver 0 = .ok (.iload_n 1, 1) := by decide +kernel
theorem dX4_driver_1 : decode cX4_driver 1 = .ok (.invokestatic 101, 3) := by decide +kernel
theorem dX4_driver_4 : decode cX4_driver 4 = .ok (.ifCond .ne 10, 3) := by decide +kernel
theorem dX4_driver_7 : decode cX4_driver 7 = .ok (.aload_n 0, 1) := by decide +kernel
theorem dX4_driver_8 : decode cX4_driver 8 = .ok (.ldc 52, 2) := by decide +kernel
theorem dX4_driver_10 : decode cX4_driver 10 = .ok (.invokevirtual 53, 3) := by decide +kernel
theorem dX4_driver_13 : decode cX4_driver 13 = .ok (.ireturn, 1) := by decide +kernel
theorem dX4_driver_14 : decode cX4_driver 14 = .ok (.aload_n 0, 1) := by decide +kernel
theorem dX4_driver_15 : decode cX4_driver 15 = .ok (.getfield 10, 3) := by decide +kernel
theorem dX4_driver_18 : decode cX4_driver 18 = .ok (.getfield 104, 3) := by decide +kernel
theorem dX4_driver_21 : decode cX4_driver 21 = .ok (.bipush 8, 2) := by decide +kernel
theorem dX4_driver_23 : decode cX4_driver 23 = .ok (.if_icmp .lt 10, 3) := by decide +kernel
theorem dX4_driver_26 : decode cX4_driver 26 = .ok (.aload_n 0, 1) := by decide +kernel
theorem dX4_driver_27 : decode cX4_driver 27 = .ok (.ldc 107, 2) := by decide +kernel
theorem dX4_driver_29 : decode cX4_driver 29 = .ok (.invokevirtual 53, 3) := by decide +kernel
theorem dX4_driver_32 : decode cX4_driver 32 = .ok (.ireturn, 1) := by decide +kernel
theorem dX4_driver_33 : decode cX4_driver 33 = .ok (.aload_n 0, 1) := by decide +kernel
theorem dX4_driver_34 : decode cX4_driver 34 = .ok (.getfield 10, 3) := by decide +kernel
theorem dX4_driver_37 : decode cX4_driver 37 = .ok (.iload_n 1, 1) := by decide +kernel
theorem dX4_driver_38 : decode cX4_driver 38 = .ok (.invokevirtual 108, 3) := by decide +kernel
theorem dX4_driver_41 : decode cX4_driver 41 = .ok (.ireturn, 1) := by decide +kernel
theorem dX4_of_0 : decode cX4_of 0 = .ok (.aload_n 0, 1) := by decide +kernel
theorem dX4_of_1 : decode cX4_of 1 = .ok (.getfield 10, 3) := by decide +kernel
theorem dX4_of_4 : decode cX4_of 4 = .ok (.iload_n 1, 1) := by decide +kernel
theorem dX4_of_5 : decode cX4_of 5 = .ok (.invokevirtual 111, 3) := by decide +kernel
theorem dX4_of_8 : decode cX4_of 8 = .ok (.ifCond .ne 10, 3) := by decide +kernel
theorem dX4_of_11 : decode cX4_of 11 = .ok (.aload_n 0, 1) := by decide +kernel
theorem dX4_of_12 : decode cX4_of 12 = .ok (.ldc 52, 2) := by decide +kernel
theorem dX4_of_14 : decode cX4_of 14 = .ok (.invokevirtual 53, 3) := by decide +kernel
theorem dX4_of_17 : decode cX4_of 17 = .ok (.ireturn, 1) := by decide +kernel
theorem dX4_of_18 : decode cX4_of 18 = .ok (.aload_n 0, 1) := by decide +kernel
theorem dX4_of_19 : decode cX4_of 19 = .ok (.getfield 10, 3) := by decide +kernel
theorem dX4_of_22 : decode cX4_of 22 = .ok (.getfield 114, 3) := by decide +kernel
theorem dX4_of_25 : decode cX4_of 25 = .ok (.iload_n 1, 1) := by decide +kernel
theorem dX4_of_26 : decode cX4_of 26 = .ok (.iaload, 1) := by decide +kernel
theorem dX4_of_27 : decode cX4_of 27 = .ok (.istore_n 3, 1) := by decide +kernel
theorem dX4_of_28 : decode cX4_of 28 = .ok (.aload_n 0, 1) := by decide +kernel
theorem dX4_of_29 : decode cX4_of 29 = .ok (.getfield 10, 3) := by decide +kernel
theorem dX4_of_32 : decode cX4_of 32 = .ok (.getfield 117, 3) := by decide +kernel
theorem dX4_of_35 : decode cX4_of 35 = .ok (.iload_n 1, 1) := by decide +kernel
theorem dX4_of_36 : decode cX4_of 36 = .ok (.iaload, 1) := by decide +kernel
theorem dX4_of_37 : decode cX4_of 37 = .ok (.istore 4, 2) := by decide +kernel
theorem dX4_of_39 : decode cX4_of 39 = .ok (.aload_n 0, 1) := by decide +kernel
theorem dX4_of_40 : decode cX4_of 40 = .ok (.getfield 10, 3) := by decide +kernel
theorem dX4_of_43 : decode cX4_of 43 = .ok (.getfield 120, 3) := by decide +kernel
theorem dX4_of_46 : decode cX4_of 46 = .ok (.iload_n 1, 1) := by decide +kernel
theorem dX4_of_47 : decode cX4_of 47 = .ok (.iaload, 1) := by decide +kernel
theorem dX4_of_48 : decode cX4_of 48 = .ok (.istore 5, 2) := by decide +kernel
theorem dX4_of_50 : decode cX4_of 50 = .ok (.iload_n 2, 1) := by decide +kernel
theorem dX4_of_51 : decode cX4_of 51 = .ok (.tableswitch 76 0 5 #[37, 39, 42, 45, 50, 63], 37) := by decide +kernel
theorem dX4_of_88 : decode cX4_of 88 = .ok (.iload_n 3, 1) := by decide +kernel
theorem dX4_of_89 : decode cX4_of 89 = .ok (.ireturn, 1) := by decide +kernel
theorem dX4_of_90 : decode cX4_of 90 = .ok (.iload 4, 2) := by decide +kernel
theorem dX4_of_92 : decode cX4_of 92 = .ok (.ireturn, 1) := by decide +kernel
theorem dX4_of_93 : decode cX4_of 93 = .ok (.iload 5, 2) := by decide +kernel
theorem dX4_of_95 : decode cX4_of 95 = .ok (.ireturn, 1) := by decide +kernel
theorem dX4_of_96 : decode cX4_of 96 = .ok (.iload_n 3, 1) := by decide +kernel
theorem dX4_of_97 : decode cX4_of 97 = .ok (.invokestatic 123, 3) := by decide +kernel
theorem dX4_of_100 : decode cX4_of 100 = .ok (.ireturn, 1) := by decide +kernel
theorem dX4_of_101 : decode cX4_of 101 = .ok (.aload_n 0, 1) := by decide +kernel
theorem dX4_of_102 : decode cX4_of 102 = .ok (.getfield 10, 3) := by decide +kernel
theorem dX4_of_105 : decode cX4_of 105 = .ok (.iload_n 3, 1) := by decide +kernel
theorem dX4_of_106 : decode cX4_of 106 = .ok (.iload 4, 2) := by decide +kernel
theorem dX4_of_108 : decode cX4_of 108 = .ok (.iload 5, 2) := by decide +kernel
theorem dX4_of_110 : decode cX4_of 110 = .ok (.invokevirtual 128, 3) := by decide +kernel
theorem dX4_of_113 : decode cX4_of 113 = .ok (.ireturn, 1) := by decide +kernel
theorem dX4_of_114 : decode cX4_of 114 = .ok (.aload_n 0, 1) := by decide +kernel
theorem dX4_of_115 : decode cX4_of 115 = .ok (.getfield 10, 3) := by decide +kernel
theorem dX4_of_118 : decode cX4_of 118 = .ok (.iload_n 3, 1) := by decide +kernel
theorem dX4_of_119 : decode cX4_of 119 = .ok (.iload 4, 2) := by decide +kernel
theorem dX4_of_121 : decode cX4_of 121 = .ok (.iload 5, 2) := by decide +kernel
theorem dX4_of_123 : decode cX4_of 123 = .ok (.invokevirtual 132, 3) := by decide +kernel
theorem dX4_of_126 : decode cX4_of 126 = .ok (.ireturn, 1) := by decide +kernel
theorem dX4_of_127 : decode cX4_of 127 = .ok (.aload_n 0, 1) := by decide +kernel
theorem dX4_of_128 : decode cX4_of 128 = .ok (.ldc 52, 2) := by decide +kernel
theorem dX4_of_130 : decode cX4_of 130 = .ok (.invokevirtual 53, 3) := by decide +kernel
theorem dX4_of_133 : decode cX4_of 133 = .ok (.ireturn, 1) := by decide +kernel
theorem dX4_set_0 : decode cX4_set 0 = .ok (.aload_n 0, 1) := by decide +kernel
theorem dX4_set_1 : decode cX4_set 1 = .ok (.getfield 10, 3) := by decide +kernel
theorem dX4_set_4 : decode cX4_set 4 = .ok (.iload_n 1, 1) := by decide +kernel
theorem dX4_set_5 : decode cX4_set 5 = .ok (.invokevirtual 111, 3) := by decide +kernel
theorem dX4_set_8 : decode cX4_set 8 = .ok (.ifCond .ne 10, 3) := by decide +kernel
theorem dX4_set_11 : decode cX4_set 11 = .ok (.aload_n 0, 1) := by decide +kernel
theorem dX4_set_12 : decode cX4_set 12 = .ok (.ldc 52, 2) := by decide +kernel
theorem dX4_set_14 : decode cX4_set 14 = .ok (.invokevirtual 53, 3) := by decide +kernel
theorem dX4_set_17 : decode cX4_set 17 = .ok (.ireturn, 1) := by decide +kernel
theorem dX4_set_18 : decode cX4_set 18 = .ok (.iload_n 2, 1) := by decide +kernel
theorem dX4_set_19 : decode cX4_set 19 = .ok (.iconst 1, 1) := by decide +kernel
theorem dX4_set_20 : decode cX4_set 20 = .ok (.if_icmp .ne 38, 3) := by decide +kernel
theorem dX4_set_23 : decode cX4_set 23 = .ok (.iload_n 3, 1) := by decide +kernel
theorem dX4_set_24 : decode cX4_set 24 = .ok (.bipush 10, 2) := by decide +kernel
theorem dX4_set_26 : decode cX4_set 26 = .ok (.bipush 80, 2) := by decide +kernel
theorem dX4_set_28 : decode cX4_set 28 = .ok (.invokestatic 48, 3) := by decide +kernel
theorem dX4_set_31 : decode cX4_set 31 = .ok (.ifCond .eq 27, 3) := by decide +kernel
theorem dX4_set_34 : decode cX4_set 34 = .ok (.aload_n 0, 1) := by decide +kernel
theorem dX4_set_35 : decode cX4_set 35 = .ok (.getfield 10, 3) := by decide +kernel
theorem dX4_set_38 : decode cX4_set 38 = .ok (.getfield 117, 3) := by decide +kernel
theorem dX4_set_41 : decode cX4_set 41 = .ok (.iload_n 1, 1) := by decide +kernel
theorem dX4_set_42 : decode cX4_set 42 = .ok (.iaload, 1) := by decide +kernel
theorem dX4_set_43 : decode cX4_set 43 = .ok (.istore 4, 2) := by decide +kernel
theorem dX4_set_45 : decode cX4_set 45 = .ok (.aload_n 0, 1) := by decide +kernel
theorem dX4_set_46 : decode cX4_set 46 = .ok (.getfield 10, 3) := by decide +kernel
theorem dX4_set_49 : decode cX4_set 49 = .ok (.getfield 117, 3) := by decide +kernel
theorem dX4_set_52 : decode cX4_set 52 = .ok (.iload_n 1, 1) := by decide +kernel
theorem dX4_set_53 : decode cX4_set 53 = .ok (.iload_n 3, 1) := by decide +kernel
theorem dX4_set_54 : decode cX4_set 54 = .ok (.iastore, 1) := by decide +kernel
theorem dX4_set_55 : decode cX4_set 55 = .ok (.iload 4, 2) := by decide +kernel
theorem dX4_set_57 : decode cX4_set 57 = .ok (.ireturn, 1) := by decide +kernel
theorem dX4_set_58 : decode cX4_set 58 = .ok (.iload_n 2, 1) := by decide +kernel
theorem dX4_set_59 : decode cX4_set 59 = .ok (.iconst 2, 1) := by decide +kernel
theorem dX4_set_60 : decode cX4_set 60 = .ok (.if_icmp .ne 34, 3) := by decide +kernel
theorem dX4_set_63 : decode cX4_set 63 = .ok (.iload_n 3, 1) := by decide +kernel
theorem dX4_set_64 : decode cX4_set 64 = .ok (.invokestatic 75, 3) := by decide +kernel
theorem dX4_set_67 : decode cX4_set 67 = .ok (.ifCond .eq 27, 3) := by decide +kernel
theorem dX4_set_70 : decode cX4_set 70 = .ok (.aload_n 0, 1) := by decide +kernel
theorem dX4_set_71 : decode cX4_set 71 = .ok (.getfield 10, 3) := by decide +kernel
theorem dX4_set_74 : decode cX4_set 74 = .ok (.getfield 120, 3) := by decide +kernel
theorem dX4_set_77 : decode cX4_set 77 = .ok (.iload_n 1, 1) := by decide +kernel
theorem dX4_set_78 : decode cX4_set 78 = .ok (.iaload, 1) := by decide +kernel
theorem dX4_set_79 : decode cX4_set 79 = .ok (.istore 4, 2) := by decide +kernel
theorem dX4_set_81 : decode cX4_set 81 = .ok (.aload_n 0, 1) := by decide +kernel
theorem dX4_set_82 : decode cX4_set 82 = .ok (.getfield 10, 3) := by decide +kernel
theorem dX4_set_85 : decode cX4_set 85 = .ok (.getfield 120, 3) := by decide +kernel
theorem dX4_set_88 : decode cX4_set 88 = .ok (.iload_n 1, 1) := by decide +kernel
theorem dX4_set_89 : decode cX4_set 89 = .ok (.iload_n 3, 1) := by decide +kernel
theorem dX4_set_90 : decode cX4_set 90 = .ok (.iastore, 1) := by decide +kernel
theorem dX4_set_91 : decode cX4_set 91 = .ok (.iload 4, 2) := by decide +kernel
theorem dX4_set_93 : decode cX4_set 93 = .ok (.ireturn, 1) := by decide +kernel
theorem dX4_set_94 : decode cX4_set 94 = .ok (.aload_n 0, 1) := by decide +kernel
theorem dX4_set_95 : decode cX4_set 95 = .ok (.ldc 52, 2) := by decide +kernel
theorem dX4_set_97 : decode cX4_set 97 = .ok (.invokevirtual 53, 3) := by decide +kernel
theorem dX4_set_100 : decode cX4_set 100 = .ok (.ireturn, 1) := by decide +kernel
theorem dX4_turn_0 : decode cX4_turn 0 = .ok (.aload_n 0, 1) := by decide +kernel
theorem dX4_turn_1 : decode cX4_turn 1 = .ok (.getfield 10, 3) := by decide +kernel
theorem dX4_turn_4 : decode cX4_turn 4 = .ok (.iload_n 1, 1) := by decide +kernel
theorem dX4_turn_5 : decode cX4_turn 5 = .ok (.invokevirtual 111, 3) := by decide +kernel
theorem dX4_turn_8 : decode cX4_turn 8 = .ok (.ifCond .eq 10, 3) := by decide +kernel
theorem dX4_turn_11 : decode cX4_turn 11 = .ok (.iload_n 2, 1) := by decide +kernel
theorem dX4_turn_12 : decode cX4_turn 12 = .ok (.invokestatic 101, 3) := by decide +kernel
theorem dX4_turn_15 : decode cX4_turn 15 = .ok (.ifCond .ne 10, 3) := by decide +kernel
theorem dX4_turn_18 : decode cX4_turn 18 = .ok (.aload_n 0, 1) := by decide +kernel
theorem dX4_turn_19 : decode cX4_turn 19 = .ok (.ldc 52, 2) := by decide +kernel
theorem dX4_turn_21 : decode cX4_turn 21 = .ok (.invokevirtual 53, 3) := by decide +kernel
theorem dX4_turn_24 : decode cX4_turn 24 = .ok (.ireturn, 1) := by decide +kernel
theorem dX4_turn_25 : decode cX4_turn 25 = .ok (.aload_n 0, 1) := by decide +kernel
theorem dX4_turn_26 : decode cX4_turn 26 = .ok (.getfield 10, 3) := by decide +kernel
theorem dX4_turn_29 : decode cX4_turn 29 = .ok (.getfield 114, 3) := by decide +kernel
theorem dX4_turn_32 : decode cX4_turn 32 = .ok (.iload_n 1, 1) := by decide +kernel
theorem dX4_turn_33 : decode cX4_turn 33 = .ok (.iaload, 1) := by decide +kernel
theorem dX4_turn_34 : decode cX4_turn 34 = .ok (.istore_n 3, 1) := by decide +kernel
theorem dX4_turn_35 : decode cX4_turn 35 = .ok (.aload_n 0, 1) := by decide +kernel
theorem dX4_turn_36 : decode cX4_turn 36 = .ok (.getfield 10, 3) := by decide +kernel
theorem dX4_turn_39 : decode cX4_turn 39 = .ok (.getfield 114, 3) := by decide +kernel
theorem dX4_turn_42 : decode cX4_turn 42 = .ok (.iload_n 1, 1) := by decide +kernel
theorem dX4_turn_43 : decode cX4_turn 43 = .ok (.iload_n 2, 1) := by decide +kernel
theorem dX4_turn_44 : decode cX4_turn 44 = .ok (.iastore, 1) := by decide +kernel
theorem dX4_turn_45 : decode cX4_turn 45 = .ok (.iload_n 3, 1) := by decide +kernel
theorem dX4_turn_46 : decode cX4_turn 46 = .ok (.ireturn, 1) := by decide +kernel
theorem dX4_as_0 : decode cX4_as 0 = .ok (.aload_n 0, 1) := by decide +kernel
theorem dX4_as_1 : decode cX4_as 1 = .ok (.getfield 10, 3) := by decide +kernel
theorem dX4_as_4 : decode cX4_as 4 = .ok (.iload_n 1, 1) := by decide +kernel
theorem dX4_as_5 : decode cX4_as 5 = .ok (.invokevirtual 111, 3) := by decide +kernel
theorem dX4_as_8 : decode cX4_as 8 = .ok (.ifCond .eq 10, 3) := by decide +kernel
theorem dX4_as_11 : decode cX4_as 11 = .ok (.iload_n 2, 1) := by decide +kernel
theorem dX4_as_12 : decode cX4_as 12 = .ok (.invokestatic 101, 3) := by decide +kernel
theorem dX4_as_15 : decode cX4_as 15 = .ok (.ifCond .ne 10, 3) := by decide +kernel
theorem dX4_as_18 : decode cX4_as 18 = .ok (.aload_n 0, 1) := by decide +kernel
theorem dX4_as_19 : decode cX4_as 19 = .ok (.ldc 52, 2) := by decide +kernel
theorem dX4_as_21 : decode cX4_as 21 = .ok (.invokevirtual 53, 3) := by decide +kernel
theorem dX4_as_24 : decode cX4_as 24 = .ok (.ireturn, 1) := by decide +kernel
theorem dX4_as_25 : decode cX4_as 25 = .ok (.aload_n 0, 1) := by decide +kernel
theorem dX4_as_26 : decode cX4_as 26 = .ok (.getfield 10, 3) := by decide +kernel
theorem dX4_as_29 : decode cX4_as 29 = .ok (.getfield 114, 3) := by decide +kernel
theorem dX4_as_32 : decode cX4_as 32 = .ok (.iload_n 1, 1) := by decide +kernel
theorem dX4_as_33 : decode cX4_as 33 = .ok (.iaload, 1) := by decide +kernel
theorem dX4_as_34 : decode cX4_as 34 = .ok (.iload_n 2, 1) := by decide +kernel
theorem dX4_as_35 : decode cX4_as 35 = .ok (.invokestatic 135, 3) := by decide +kernel
theorem dX4_as_38 : decode cX4_as 38 = .ok (.ifCond .ne 10, 3) := by decide +kernel
theorem dX4_as_41 : decode cX4_as 41 = .ok (.aload_n 0, 1) := by decide +kernel
theorem dX4_as_42 : decode cX4_as 42 = .ok (.ldc 138, 2) := by decide +kernel
theorem dX4_as_44 : decode cX4_as 44 = .ok (.invokevirtual 53, 3) := by decide +kernel
theorem dX4_as_47 : decode cX4_as 47 = .ok (.ireturn, 1) := by decide +kernel
theorem dX4_as_48 : decode cX4_as 48 = .ok (.aload_n 0, 1) := by decide +kernel
theorem dX4_as_49 : decode cX4_as 49 = .ok (.getfield 10, 3) := by decide +kernel
theorem dX4_as_52 : decode cX4_as 52 = .ok (.getfield 117, 3) := by decide +kernel
theorem dX4_as_55 : decode cX4_as 55 = .ok (.iload_n 1, 1) := by decide +kernel
theorem dX4_as_56 : decode cX4_as 56 = .ok (.iaload, 1) := by decide +kernel
theorem dX4_as_57 : decode cX4_as 57 = .ok (.ireturn, 1) := by decide +kernel
theorem dX4_slows_0 : decode cX4_slows 0 = .ok (.aload_n 0, 1) := by decide +kernel
theorem dX4_slows_1 : decode cX4_slows 1 = .ok (.getfield 10, 3) := by decide +kernel
theorem dX4_slows_4 : decode cX4_slows 4 = .ok (.iload_n 1, 1) := by decide +kernel
theorem dX4_slows_5 : decode cX4_slows 5 = .ok (.invokevirtual 111, 3) := by decide +kernel
theorem dX4_slows_8 : decode cX4_slows 8 = .ok (.ifCond .eq 23, 3) := by decide +kernel
theorem dX4_slows_11 : decode cX4_slows 11 = .ok (.iload_n 2, 1) := by decide +kernel
theorem dX4_slows_12 : decode cX4_slows 12 = .ok (.iconst 1, 1) := by decide +kernel
theorem dX4_slows_13 : decode cX4_slows 13 = .ok (.iconst 4, 1) := by decide +kernel
theorem dX4_slows_14 : decode cX4_slows 14 = .ok (.invokestatic 48, 3) := by decide +kernel
theorem dX4_slows_17 : decode cX4_slows 17 = .ok (.ifCond .eq 14, 3) := by decide +kernel
theorem dX4_slows_20 : decode cX4_slows 20 = .ok (.iload_n 3, 1) := by decide +kernel
theorem dX4_slows_21 : decode cX4_slows 21 = .ok (.iconst 0, 1) := by decide +kernel
theorem dX4_slows_22 : decode cX4_slows 22 = .ok (.sipush 999, 3) := by decide +kernel
theorem dX4_slows_25 : decode cX4_slows 25 = .ok (.invokestatic 48, 3) := by decide +kernel
theorem dX4_slows_28 : decode cX4_slows 28 = .ok (.ifCond .ne 10, 3) := by decide +kernel
theorem dX4_slows_31 : decode cX4_slows 31 = .ok (.aload_n 0, 1) := by decide +kernel
theorem dX4_slows_32 : decode cX4_slows 32 = .ok (.ldc 52, 2) := by decide +kernel
theorem dX4_slows_34 : decode cX4_slows 34 = .ok (.invokevirtual 53, 3) := by decide +kernel
theorem dX4_slows_37 : decode cX4_slows 37 = .ok (.ireturn, 1) := by decide +kernel
theorem dX4_slows_38 : decode cX4_slows 38 = .ok (.aload_n 0, 1) := by decide +kernel
theorem dX4_slows_39 : decode cX4_slows 39 = .ok (.getfield 10, 3) := by decide +kernel
theorem dX4_slows_42 : decode cX4_slows 42 = .ok (.getfield 114, 3) := by decide +kernel
theorem dX4_slows_45 : decode cX4_slows 45 = .ok (.iload_n 1, 1) := by decide +kernel
theorem dX4_slows_46 : decode cX4_slows 46 = .ok (.iaload, 1) := by decide +kernel
theorem dX4_slows_47 : decode cX4_slows 47 = .ok (.aload_n 0, 1) := by decide +kernel
theorem dX4_slows_48 : decode cX4_slows 48 = .ok (.getfield 10, 3) := by decide +kernel
theorem dX4_slows_51 : decode cX4_slows 51 = .ok (.getfield 117, 3) := by decide +kernel
theorem dX4_slows_54 : decode cX4_slows 54 = .ok (.iload_n 1, 1) := by decide +kernel
theorem dX4_slows_55 : decode cX4_slows 55 = .ok (.iaload, 1) := by decide +kernel
theorem dX4_slows_56 : decode cX4_slows 56 = .ok (.iload_n 2, 1) := by decide +kernel
theorem dX4_slows_57 : decode cX4_slows 57 = .ok (.aload_n 0, 1) := by decide +kernel
theorem dX4_slows_58 : decode cX4_slows 58 = .ok (.getfield 10, 3) := by decide +kernel
theorem dX4_slows_61 : decode cX4_slows 61 = .ok (.getfield 71, 3) := by decide +kernel
theorem dX4_slows_64 : decode cX4_slows 64 = .ok (.iload_n 3, 1) := by decide +kernel
theorem dX4_slows_65 : decode cX4_slows 65 = .ok (.invokestatic 139, 3) := by decide +kernel
theorem dX4_slows_68 : decode cX4_slows 68 = .ok (.ireturn, 1) := by decide +kernel
theorem dX4_quick_0 : decode cX4_quick 0 = .ok (.aload_n 0, 1) := by decide +kernel
theorem dX4_quick_1 : decode cX4_quick 1 = .ok (.getfield 10, 3) := by decide +kernel
theorem dX4_quick_4 : decode cX4_quick 4 = .ok (.iload_n 1, 1) := by decide +kernel
theorem dX4_quick_5 : decode cX4_quick 5 = .ok (.invokevirtual 111, 3) := by decide +kernel
theorem dX4_quick_8 : decode cX4_quick 8 = .ok (.ifCond .eq 11, 3) := by decide +kernel
theorem dX4_quick_11 : decode cX4_quick 11 = .ok (.iload_n 2, 1) := by decide +kernel
theorem dX4_quick_12 : decode cX4_quick 12 = .ok (.iload_n 3, 1) := by decide +kernel
theorem dX4_quick_13 : decode cX4_quick 13 = .ok (.invokestatic 44, 3) := by decide +kernel
theorem dX4_quick_16 : decode cX4_quick 16 = .ok (.ifCond .ne 10, 3) := by decide +kernel
theorem dX4_quick_19 : decode cX4_quick 19 = .ok (.aload_n 0, 1) := by decide +kernel
theorem dX4_quick_20 : decode cX4_quick 20 = .ok (.ldc 52, 2) := by decide +kernel
theorem dX4_quick_22 : decode cX4_quick 22 = .ok (.invokevirtual 53, 3) := by decide +kernel
theorem dX4_quick_25 : decode cX4_quick 25 = .ok (.ireturn, 1) := by decide +kernel
theorem dX4_quick_26 : decode cX4_quick 26 = .ok (.aload_n 0, 1) := by decide +kernel
theorem dX4_quick_27 : decode cX4_quick 27 = .ok (.getfield 10, 3) := by decide +kernel
theorem dX4_quick_30 : decode cX4_quick 30 = .ok (.aload_n 0, 1) := by decide +kernel
theorem dX4_quick_31 : decode cX4_quick 31 = .ok (.getfield 10, 3) := by decide +kernel
theorem dX4_quick_34 : decode cX4_quick 34 = .ok (.getfield 114, 3) := by decide +kernel
theorem dX4_quick_37 : decode cX4_quick 37 = .ok (.iload_n 1, 1) := by decide +kernel
theorem dX4_quick_38 : decode cX4_quick 38 = .ok (.iaload, 1) := by decide +kernel
theorem dX4_quick_39 : decode cX4_quick 39 = .ok (.aload_n 0, 1) := by decide +kernel
theorem dX4_quick_40 : decode cX4_quick 40 = .ok (.getfield 10, 3) := by decide +kernel
theorem dX4_quick_43 : decode cX4_quick 43 = .ok (.getfield 117, 3) := by decide +kernel
theorem dX4_quick_46 : decode cX4_quick 46 = .ok (.iload_n 1, 1) := by decide +kernel
theorem dX4_quick_47 : decode cX4_quick 47 = .ok (.iaload, 1) := by decide +kernel
theorem dX4_quick_48 : decode cX4_quick 48 = .ok (.iload_n 2, 1) := by decide +kernel
theorem dX4_quick_49 : decode cX4_quick 49 = .ok (.iload_n 3, 1) := by decide +kernel
theorem dX4_quick_50 : decode cX4_quick 50 = .ok (.invokevirtual 143, 3) := by decide +kernel
theorem dX4_quick_53 : decode cX4_quick 53 = .ok (.ireturn, 1) := by decide +kernel
theorem dX4_takes_0 : decode cX4_takes 0 = .ok (.aload_n 0, 1) := by decide +kernel
theorem dX4_takes_1 : decode cX4_takes 1 = .ok (.getfield 10, 3) := by decide +kernel
theorem dX4_takes_4 : decode cX4_takes 4 = .ok (.iload_n 1, 1) := by decide +kernel
theorem dX4_takes_5 : decode cX4_takes 5 = .ok (.invokevirtual 111, 3) := by decide +kernel
theorem dX4_takes_8 : decode cX4_takes 8 = .ok (.ifCond .eq 10, 3) := by decide +kernel
theorem dX4_takes_11 : decode cX4_takes 11 = .ok (.iload_n 2, 1) := by decide +kernel
theorem dX4_takes_12 : decode cX4_takes 12 = .ok (.invokestatic 75, 3) := by decide +kernel
theorem dX4_takes_15 : decode cX4_takes 15 = .ok (.ifCond .ne 10, 3) := by decide +kernel
theorem dX4_takes_18 : decode cX4_takes 18 = .ok (.aload_n 0, 1) := by decide +kernel
theorem dX4_takes_19 : decode cX4_takes 19 = .ok (.ldc 52, 2) := by decide +kernel
theorem dX4_takes_21 : decode cX4_takes 21 = .ok (.invokevirtual 53, 3) := by decide +kernel
theorem dX4_takes_24 : decode cX4_takes 24 = .ok (.ireturn, 1) := by decide +kernel
theorem dX4_takes_25 : decode cX4_takes 25 = .ok (.aload_n 0, 1) := by decide +kernel
theorem dX4_takes_26 : decode cX4_takes 26 = .ok (.getfield 10, 3) := by decide +kernel
theorem dX4_takes_29 : decode cX4_takes 29 = .ok (.aload_n 0, 1) := by decide +kernel
theorem dX4_takes_30 : decode cX4_takes 30 = .ok (.getfield 10, 3) := by decide +kernel
theorem dX4_takes_33 : decode cX4_takes 33 = .ok (.getfield 114, 3) := by decide +kernel
theorem dX4_takes_36 : decode cX4_takes 36 = .ok (.iload_n 1, 1) := by decide +kernel
theorem dX4_takes_37 : decode cX4_takes 37 = .ok (.iaload, 1) := by decide +kernel
theorem dX4_takes_38 : decode cX4_takes 38 = .ok (.aload_n 0, 1) := by decide +kernel
theorem dX4_takes_39 : decode cX4_takes 39 = .ok (.getfield 10, 3) := by decide +kernel
theorem dX4_takes_42 : decode cX4_takes 42 = .ok (.getfield 117, 3) := by decide +kernel
theorem dX4_takes_45 : decode cX4_takes 45 = .ok (.iload_n 1, 1) := by decide +kernel
theorem dX4_takes_46 : decode cX4_takes 46 = .ok (.iaload, 1) := by decide +kernel
theorem dX4_takes_47 : decode cX4_takes 47 = .ok (.iload_n 2, 1) := by decide +kernel
theorem dX4_takes_48 : decode cX4_takes 48 = .ok (.invokevirtual 128, 3) := by decide +kernel
theorem dX4_takes_51 : decode cX4_takes 51 = .ok (.ireturn, 1) := by decide +kernel
theorem dX4_shaken_0 : decode cX4_shaken 0 = .ok (.aload_n 0, 1) := by decide +kernel
theorem dX4_shaken_1 : decode cX4_shaken 1 = .ok (.getfield 10, 3) := by decide +kernel
theorem dX4_shaken_4 : decode cX4_shaken 4 = .ok (.iload_n 1, 1) := by decide +kernel
theorem dX4_shaken_5 : decode cX4_shaken 5 = .ok (.invokevirtual 111, 3) := by decide +kernel
theorem dX4_shaken_8 : decode cX4_shaken 8 = .ok (.ifCond .eq 10, 3) := by decide +kernel
theorem dX4_shaken_11 : decode cX4_shaken 11 = .ok (.iload_n 2, 1) := by decide +kernel
theorem dX4_shaken_12 : decode cX4_shaken 12 = .ok (.invokestatic 75, 3) := by decide +kernel
theorem dX4_shaken_15 : decode cX4_shaken 15 = .ok (.ifCond .ne 10, 3) := by decide +kernel
theorem dX4_shaken_18 : decode cX4_shaken 18 = .ok (.aload_n 0, 1) := by decide +kernel
theorem dX4_shaken_19 : decode cX4_shaken 19 = .ok (.ldc 52, 2) := by decide +kernel
theorem dX4_shaken_21 : decode cX4_shaken 21 = .ok (.invokevirtual 53, 3) := by decide +kernel
theorem dX4_shaken_24 : decode cX4_shaken 24 = .ok (.ireturn, 1) := by decide +kernel
theorem dX4_shaken_25 : decode cX4_shaken 25 = .ok (.aload_n 0, 1) := by decide +kernel
theorem dX4_shaken_26 : decode cX4_shaken 26 = .ok (.getfield 10, 3) := by decide +kernel
theorem dX4_shaken_29 : decode cX4_shaken 29 = .ok (.aload_n 0, 1) := by decide +kernel
theorem dX4_shaken_30 : decode cX4_shaken 30 = .ok (.getfield 10, 3) := by decide +kernel
theorem dX4_shaken_33 : decode cX4_shaken 33 = .ok (.getfield 114, 3) := by decide +kernel
theorem dX4_shaken_36 : decode cX4_shaken 36 = .ok (.iload_n 1, 1) := by decide +kernel
theorem dX4_shaken_37 : decode cX4_shaken 37 = .ok (.iaload, 1) := by decide +kernel
theorem dX4_shaken_38 : decode cX4_shaken 38 = .ok (.aload_n 0, 1) := by decide +kernel
theorem dX4_shaken_39 : decode cX4_shaken 39 = .ok (.getfield 10, 3) := by decide +kernel
theorem dX4_shaken_42 : decode cX4_shaken 42 = .ok (.getfield 117, 3) := by decide +kernel
theorem dX4_shaken_45 : decode cX4_shaken 45 = .ok (.iload_n 1, 1) := by decide +kernel
theorem dX4_shaken_46 : decode cX4_shaken 46 = .ok (.iaload, 1) := by decide +kernel
theorem dX4_shaken_47 : decode cX4_shaken 47 = .ok (.iload_n 2, 1) := by decide +kernel
theorem dX4_shaken_48 : decode cX4_shaken 48 = .ok (.invokevirtual 132, 3) := by decide +kernel
theorem dX4_shaken_51 : decode cX4_shaken 51 = .ok (.ireturn, 1) := by decide +kernel
theorem dX4_days_0 : decode cX4_days 0 = .ok (.iload_n 1, 1) := by decide +kernel
theorem dX4_days_1 : decode cX4_days 1 = .ok (.iconst 1, 1) := by decide +kernel
theorem dX4_days_2 : decode cX4_days 2 = .ok (.bipush 100, 2) := by decide +kernel
theorem dX4_days_4 : decode cX4_days 4 = .ok (.invokestatic 48, 3) := by decide +kernel
theorem dX4_days_7 : decode cX4_days 7 = .ok (.ifCond .ne 10, 3) := by decide +kernel
theorem dX4_days_10 : decode cX4_days 10 = .ok (.aload_n 0, 1) := by decide +kernel
theorem dX4_days_11 : decode cX4_days 11 = .ok (.ldc 52, 2) := by decide +kernel
theorem dX4_days_13 : decode cX4_days 13 = .ok (.invokevirtual 53, 3) := by decide +kernel
theorem dX4_days_16 : decode cX4_days 16 = .ok (.ireturn, 1) := by decide +kernel
theorem dX4_days_17 : decode cX4_days 17 = .ok (.aload_n 0, 1) := by decide +kernel
theorem dX4_days_18 : decode cX4_days 18 = .ok (.getfield 10, 3) := by decide +kernel
theorem dX4_days_21 : decode cX4_days 21 = .ok (.getfield 91, 3) := by decide +kernel
theorem dX4_days_24 : decode cX4_days 24 = .ok (.iload_n 1, 1) := by decide +kernel
theorem dX4_days_25 : decode cX4_days 25 = .ok (.iadd, 1) := by decide +kernel
theorem dX4_days_26 : decode cX4_days 26 = .ok (.sipush 9999, 3) := by decide +kernel
theorem dX4_days_29 : decode cX4_days 29 = .ok (.if_icmp .le 10, 3) := by decide +kernel
theorem dX4_days_32 : decode cX4_days 32 = .ok (.aload_n 0, 1) := by decide +kernel
theorem dX4_days_33 : decode cX4_days 33 = .ok (.ldc 147, 2) := by decide +kernel
theorem dX4_days_35 : decode cX4_days 35 = .ok (.invokevirtual 53, 3) := by decide +kernel
theorem dX4_days_38 : decode cX4_days 38 = .ok (.ireturn, 1) := by decide +kernel
theorem dX4_days_39 : decode cX4_days 39 = .ok (.aload_n 0, 1) := by decide +kernel
theorem dX4_days_40 : decode cX4_days 40 = .ok (.getfield 10, 3) := by decide +kernel
theorem dX4_days_43 : decode cX4_days 43 = .ok (.iload_n 1, 1) := by decide +kernel
theorem dX4_days_44 : decode cX4_days 44 = .ok (.invokevirtual 148, 3) := by decide +kernel
theorem dX4_days_47 : decode cX4_days 47 = .ok (.aload_n 0, 1) := by decide +kernel
theorem dX4_days_48 : decode cX4_days 48 = .ok (.getfield 10, 3) := by decide +kernel
theorem dX4_days_51 : decode cX4_days 51 = .ok (.invokevirtual 94, 3) := by decide +kernel
theorem dX4_days_54 : decode cX4_days 54 = .ok (.ireturn, 1) := by decide +kernel
theorem dX4_on_0 : decode cX4_on 0 = .ok (.aload_n 0, 1) := by decide +kernel
theorem dX4_on_1 : decode cX4_on 1 = .ok (.getfield 10, 3) := by decide +kernel
theorem dX4_on_4 : decode cX4_on 4 = .ok (.iload_n 1, 1) := by decide +kernel
theorem dX4_on_5 : decode cX4_on 5 = .ok (.invokevirtual 111, 3) := by decide +kernel
theorem dX4_on_8 : decode cX4_on 8 = .ok (.ifCond .eq 13, 3) := by decide +kernel
theorem dX4_on_11 : decode cX4_on 11 = .ok (.iload_n 2, 1) := by decide +kernel
theorem dX4_on_12 : decode cX4_on 12 = .ok (.iconst 0, 1) := by decide +kernel
theorem dX4_on_13 : decode cX4_on 13 = .ok (.bipush 100, 2) := by decide +kernel
theorem dX4_on_15 : decode cX4_on 15 = .ok (.invokestatic 48, 3) := by decide +kernel
theorem dX4_on_18 : decode cX4_on 18 = .ok (.ifCond .ne 10, 3) := by decide +kernel
theorem dX4_on_21 : decode cX4_on 21 = .ok (.aload_n 0, 1) := by decide +kernel
theorem dX4_on_22 : decode cX4_on 22 = .ok (.ldc 52, 2) := by decide +kernel
theorem dX4_on_24 : decode cX4_on 24 = .ok (.invokevirtual 53, 3) := by decide +kernel
theorem dX4_on_27 : decode cX4_on 27 = .ok (.ireturn, 1) := by decide +kernel
theorem dX4_on_28 : decode cX4_on 28 = .ok (.aload_n 0, 1) := by decide +kernel
theorem dX4_on_29 : decode cX4_on 29 = .ok (.getfield 19, 3) := by decide +kernel
theorem dX4_on_32 : decode cX4_on 32 = .ok (.aload_n 0, 1) := by decide +kernel
theorem dX4_on_33 : decode cX4_on 33 = .ok (.getfield 10, 3) := by decide +kernel
theorem dX4_on_36 : decode cX4_on 36 = .ok (.invokevirtual 152, 3) := by decide +kernel
theorem dX4_on_39 : decode cX4_on 39 = .ok (.aload_n 0, 1) := by decide +kernel
theorem dX4_on_40 : decode cX4_on 40 = .ok (.getfield 19, 3) := by decide +kernel
theorem dX4_on_43 : decode cX4_on 43 = .ok (.iload_n 2, 1) := by decide +kernel
theorem dX4_on_44 : decode cX4_on 44 = .ok (.invokevirtual 148, 3) := by decide +kernel
theorem dX4_on_47 : decode cX4_on 47 = .ok (.aload_n 0, 1) := by decide +kernel
theorem dX4_on_48 : decode cX4_on 48 = .ok (.getfield 19, 3) := by decide +kernel
theorem dX4_on_51 : decode cX4_on 51 = .ok (.getfield 120, 3) := by decide +kernel
theorem dX4_on_54 : decode cX4_on 54 = .ok (.iload_n 1, 1) := by decide +kernel
theorem dX4_on_55 : decode cX4_on 55 = .ok (.iaload, 1) := by decide +kernel
theorem dX4_on_56 : decode cX4_on 56 = .ok (.ireturn, 1) := by decide +kernel
theorem dX4_then_0 : decode cX4_then 0 = .ok (.iload_n 1, 1) := by decide +kernel
theorem dX4_then_1 : decode cX4_then 1 = .ok (.iconst 0, 1) := by decide +kernel
theorem dX4_then_2 : decode cX4_then 2 = .ok (.bipush 100, 2) := by decide +kernel
theorem dX4_then_4 : decode cX4_then 4 = .ok (.invokestatic 48, 3) := by decide +kernel
theorem dX4_then_7 : decode cX4_then 7 = .ok (.ifCond .eq 12, 3) := by decide +kernel
theorem dX4_then_10 : decode cX4_then 10 = .ok (.iload_n 2, 1) := by decide +kernel
theorem dX4_then_11 : decode cX4_then 11 = .ok (.iconst 0, 1) := by decide +kernel
theorem dX4_then_12 : decode cX4_then 12 = .ok (.iconst 1, 1) := by decide +kernel
theorem dX4_then_13 : decode cX4_then 13 = .ok (.invokestatic 48, 3) := by decide +kernel
theorem dX4_then_16 : decode cX4_then 16 = .ok (.ifCond .ne 10, 3) := by decide +kernel
theorem dX4_then_19 : decode cX4_then 19 = .ok (.aload_n 0, 1) := by decide +kernel
theorem dX4_then_20 : decode cX4_then 20 = .ok (.ldc 52, 2) := by decide +kernel
theorem dX4_then_22 : decode cX4_then 22 = .ok (.invokevirtual 53, 3) := by decide +kernel
theorem dX4_then_25 : decode cX4_then 25 = .ok (.ireturn, 1) := by decide +kernel
theorem dX4_then_26 : decode cX4_then 26 = .ok (.aload_n 0, 1) := by decide +kernel
theorem dX4_then_27 : decode cX4_then 27 = .ok (.getfield 19, 3) := by decide +kernel
theorem dX4_then_30 : decode cX4_then 30 = .ok (.aload_n 0, 1) := by decide +kernel
theorem dX4_then_31 : decode cX4_then 31 = .ok (.getfield 10, 3) := by decide +kernel
theorem dX4_then_34 : decode cX4_then 34 = .ok (.invokevirtual 152, 3) := by decide +kernel
theorem dX4_then_37 : decode cX4_then 37 = .ok (.aload_n 0, 1) := by decide +kernel
theorem dX4_then_38 : decode cX4_then 38 = .ok (.getfield 19, 3) := by decide +kernel
theorem dX4_then_41 : decode cX4_then 41 = .ok (.iload_n 1, 1) := by decide +kernel
theorem dX4_then_42 : decode cX4_then 42 = .ok (.invokevirtual 148, 3) := by decide +kernel
theorem dX4_then_45 : decode cX4_then 45 = .ok (.iload_n 2, 1) := by decide +kernel
theorem dX4_then_46 : decode cX4_then 46 = .ok (.ifCond .ne 13, 3) := by decide +kernel
theorem dX4_then_49 : decode cX4_then 49 = .ok (.aload_n 0, 1) := by decide +kernel
theorem dX4_then_50 : decode cX4_then 50 = .ok (.getfield 19, 3) := by decide +kernel
theorem dX4_then_53 : decode cX4_then 53 = .ok (.invokevirtual 94, 3) := by decide +kernel
theorem dX4_then_56 : decode cX4_then 56 = .ok (.goto 10, 3) := by decide +kernel
theorem dX4_then_59 : decode cX4_then 59 = .ok (.aload_n 0, 1) := by decide +kernel
theorem dX4_then_60 : decode cX4_then 60 = .ok (.getfield 19, 3) := by decide +kernel
theorem dX4_then_63 : decode cX4_then 63 = .ok (.invokevirtual 98, 3) := by decide +kernel
theorem dX4_then_66 : decode cX4_then 66 = .ok (.ireturn, 1) := by decide +kernel
theorem dX4_leaves_0 : decode cX4_leaves 0 = .ok (.aload_n 0, 1) := by decide +kernel
theorem dX4_leaves_1 : decode cX4_leaves 1 = .ok (.getfield 10, 3) := by decide +kernel
theorem dX4_leaves_4 : decode cX4_leaves 4 = .ok (.iload_n 1, 1) := by decide +kernel
theorem dX4_leaves_5 : decode cX4_leaves 5 = .ok (.invokevirtual 111, 3) := by decide +kernel
theorem dX4_leaves_8 : decode cX4_leaves 8 = .ok (.ifCond .ne 10, 3) := by decide +kernel
theorem dX4_leaves_11 : decode cX4_leaves 11 = .ok (.aload_n 0, 1) := by decide +kernel
theorem dX4_leaves_12 : decode cX4_leaves 12 = .ok (.ldc 52, 2) := by decide +kernel
theorem dX4_leaves_14 : decode cX4_leaves 14 = .ok (.invokevirtual 53, 3) := by decide +kernel
theorem dX4_leaves_17 : decode cX4_leaves 17 = .ok (.ireturn, 1) := by decide +kernel
theorem dX4_leaves_18 : decode cX4_leaves 18 = .ok (.aload_n 0, 1) := by decide +kernel
theorem dX4_leaves_19 : decode cX4_leaves 19 = .ok (.getfield 19, 3) := by decide +kernel
theorem dX4_leaves_22 : decode cX4_leaves 22 = .ok (.aload_n 0, 1) := by decide +kernel
theorem dX4_leaves_23 : decode cX4_leaves 23 = .ok (.getfield 10, 3) := by decide +kernel
theorem dX4_leaves_26 : decode cX4_leaves 26 = .ok (.invokevirtual 152, 3) := by decide +kernel
theorem dX4_leaves_29 : decode cX4_leaves 29 = .ok (.iconst 1, 1) := by decide +kernel
theorem dX4_leaves_30 : decode cX4_leaves 30 = .ok (.istore_n 2, 1) := by decide +kernel
theorem dX4_leaves_31 : decode cX4_leaves 31 = .ok (.iload_n 2, 1) := by decide +kernel
theorem dX4_leaves_32 : decode cX4_leaves 32 = .ok (.bipush 100, 2) := by decide +kernel
theorem dX4_leaves_34 : decode cX4_leaves 34 = .ok (.if_icmp .gt 49, 3) := by decide +kernel
theorem dX4_leaves_37 : decode cX4_leaves 37 = .ok (.aload_n 0, 1) := by decide +kernel
theorem dX4_leaves_38 : decode cX4_leaves 38 = .ok (.getfield 19, 3) := by decide +kernel
theorem dX4_leaves_41 : decode cX4_leaves 41 = .ok (.iload_n 2, 1) := by decide +kernel
theorem dX4_leaves_42 : decode cX4_leaves 42 = .ok (.iconst 1, 1) := by decide +kernel
theorem dX4_leaves_43 : decode cX4_leaves 43 = .ok (.if_icmp .ne 7, 3) := by decide +kernel
theorem dX4_leaves_46 : decode cX4_leaves 46 = .ok (.iconst 1, 1) := by decide +kernel
theorem dX4_leaves_47 : decode cX4_leaves 47 = .ok (.goto 4, 3) := by decide +kernel
theorem dX4_leaves_50 : decode cX4_leaves 50 = .ok (.iconst 0, 1) := by decide +kernel
theorem dX4_leaves_51 : decode cX4_leaves 51 = .ok (.invokevirtual 156, 3) := by decide +kernel
theorem dX4_leaves_54 : decode cX4_leaves 54 = .ok (.aload_n 0, 1) := by decide +kernel
theorem dX4_leaves_55 : decode cX4_leaves 55 = .ok (.getfield 19, 3) := by decide +kernel
theorem dX4_leaves_58 : decode cX4_leaves 58 = .ok (.getfield 120, 3) := by decide +kernel
theorem dX4_leaves_61 : decode cX4_leaves 61 = .ok (.iload_n 1, 1) := by decide +kernel
theorem dX4_leaves_62 : decode cX4_leaves 62 = .ok (.iaload, 1) := by decide +kernel
theorem dX4_leaves_63 : decode cX4_leaves 63 = .ok (.aload_n 0, 1) := by decide +kernel
theorem dX4_leaves_64 : decode cX4_leaves 64 = .ok (.getfield 10, 3) := by decide +kernel
theorem dX4_leaves_67 : decode cX4_leaves 67 = .ok (.getfield 120, 3) := by decide +kernel
theorem dX4_leaves_70 : decode cX4_leaves 70 = .ok (.iload_n 1, 1) := by decide +kernel
theorem dX4_leaves_71 : decode cX4_leaves 71 = .ok (.iaload, 1) := by decide +kernel
theorem dX4_leaves_72 : decode cX4_leaves 72 = .ok (.if_icmp .eq 5, 3) := by decide +kernel
theorem dX4_leaves_75 : decode cX4_leaves 75 = .ok (.iload_n 2, 1) := by decide +kernel
theorem dX4_leaves_76 : decode cX4_leaves 76 = .ok (.ireturn, 1) := by decide +kernel
theorem dX4_leaves_77 : decode cX4_leaves 77 = .ok (.iinc 2 1, 3) := by decide +kernel
theorem dX4_leaves_80 : decode cX4_leaves 80 = .ok (.goto (-49), 3) := by decide +kernel
theorem dX4_leaves_83 : decode cX4_leaves 83 = .ok (.aload_n 0, 1) := by decide +kernel
theorem dX4_leaves_84 : decode cX4_leaves 84 = .ok (.ldc 160, 2) := by decide +kernel
theorem dX4_leaves_86 : decode cX4_leaves 86 = .ok (.invokevirtual 53, 3) := by decide +kernel
theorem dX4_leaves_89 : decode cX4_leaves 89 = .ok (.ireturn, 1) := by decide +kernel
theorem dX4_tame_0 : decode cX4_tame 0 = .ok (.aload_n 0, 1) := by decide +kernel
theorem dX4_tame_1 : decode cX4_tame 1 = .ok (.getfield 10, 3) := by decide +kernel
theorem dX4_tame_4 : decode cX4_tame 4 = .ok (.iload_n 1, 1) := by decide +kernel
theorem dX4_tame_5 : decode cX4_tame 5 = .ok (.invokevirtual 111, 3) := by decide +kernel
theorem dX4_tame_8 : decode cX4_tame 8 = .ok (.ifCond .eq 10, 3) := by decide +kernel
theorem dX4_tame_11 : decode cX4_tame 11 = .ok (.iload_n 2, 1) := by decide +kernel
theorem dX4_tame_12 : decode cX4_tame 12 = .ok (.invokestatic 75, 3) := by decide +kernel
theorem dX4_tame_15 : decode cX4_tame 15 = .ok (.ifCond .ne 10, 3) := by decide +kernel
theorem dX4_tame_18 : decode cX4_tame 18 = .ok (.aload_n 0, 1) := by decide +kernel
theorem dX4_tame_19 : decode cX4_tame 19 = .ok (.ldc 52, 2) := by decide +kernel
theorem dX4_tame_21 : decode cX4_tame 21 = .ok (.invokevirtual 53, 3) := by decide +kernel
theorem dX4_tame_24 : decode cX4_tame 24 = .ok (.ireturn, 1) := by decide +kernel
theorem dX4_tame_25 : decode cX4_tame 25 = .ok (.iconst (-1), 1) := by decide +kernel
theorem dX4_tame_26 : decode cX4_tame 26 = .ok (.istore_n 3, 1) := by decide +kernel
theorem dX4_tame_27 : decode cX4_tame 27 = .ok (.iconst 0, 1) := by decide +kernel
theorem dX4_tame_28 : decode cX4_tame 28 = .ok (.istore 4, 2) := by decide +kernel
theorem dX4_tame_30 : decode cX4_tame 30 = .ok (.aload_n 0, 1) := by decide +kernel
theorem dX4_tame_31 : decode cX4_tame 31 = .ok (.getfield 19, 3) := by decide +kernel
theorem dX4_tame_34 : decode cX4_tame 34 = .ok (.aload_n 0, 1) := by decide +kernel
theorem dX4_tame_35 : decode cX4_tame 35 = .ok (.getfield 10, 3) := by decide +kernel
theorem dX4_tame_38 : decode cX4_tame 38 = .ok (.invokevirtual 152, 3) := by decide +kernel
theorem dX4_tame_41 : decode cX4_tame 41 = .ok (.iconst 0, 1) := by decide +kernel
theorem dX4_tame_42 : decode cX4_tame 42 = .ok (.istore 5, 2) := by decide +kernel
theorem dX4_tame_44 : decode cX4_tame 44 = .ok (.iload 5, 2) := by decide +kernel
theorem dX4_tame_46 : decode cX4_tame 46 = .ok (.bipush 20, 2) := by decide +kernel
theorem dX4_tame_48 : decode cX4_tame 48 = .ok (.if_icmp .ge 94, 3) := by decide +kernel
theorem dX4_tame_51 : decode cX4_tame 51 = .ok (.aload_n 0, 1) := by decide +kernel
theorem dX4_tame_52 : decode cX4_tame 52 = .ok (.getfield 10, 3) := by decide +kernel
theorem dX4_tame_55 : decode cX4_tame 55 = .ok (.getfield 57, 3) := by decide +kernel
theorem dX4_tame_58 : decode cX4_tame 58 = .ok (.iload_n 2, 1) := by decide +kernel
theorem dX4_tame_59 : decode cX4_tame 59 = .ok (.iload 5, 2) := by decide +kernel
theorem dX4_tame_61 : decode cX4_tame 61 = .ok (.invokestatic 60, 3) := by decide +kernel
theorem dX4_tame_64 : decode cX4_tame 64 = .ok (.iaload, 1) := by decide +kernel
theorem dX4_tame_65 : decode cX4_tame 65 = .ok (.ifCond .ne 71, 3) := by decide +kernel
theorem dX4_tame_68 : decode cX4_tame 68 = .ok (.aload_n 0, 1) := by decide +kernel
theorem dX4_tame_69 : decode cX4_tame 69 = .ok (.getfield 19, 3) := by decide +kernel
theorem dX4_tame_72 : decode cX4_tame 72 = .ok (.iload_n 2, 1) := by decide +kernel
theorem dX4_tame_73 : decode cX4_tame 73 = .ok (.iload 5, 2) := by decide +kernel
theorem dX4_tame_75 : decode cX4_tame 75 = .ok (.iconst 1, 1) := by decide +kernel
theorem dX4_tame_76 : decode cX4_tame 76 = .ok (.invokevirtual 64, 3) := by decide +kernel
theorem dX4_tame_79 : decode cX4_tame 79 = .ok (.aload_n 0, 1) := by decide +kernel
theorem dX4_tame_80 : decode cX4_tame 80 = .ok (.getfield 19, 3) := by decide +kernel
theorem dX4_tame_83 : decode cX4_tame 83 = .ok (.aload_n 0, 1) := by decide +kernel
theorem dX4_tame_84 : decode cX4_tame 84 = .ok (.getfield 10, 3) := by decide +kernel
theorem dX4_tame_87 : decode cX4_tame 87 = .ok (.getfield 114, 3) := by decide +kernel
theorem dX4_tame_90 : decode cX4_tame 90 = .ok (.iload_n 1, 1) := by decide +kernel
theorem dX4_tame_91 : decode cX4_tame 91 = .ok (.iaload, 1) := by decide +kernel
theorem dX4_tame_92 : decode cX4_tame 92 = .ok (.aload_n 0, 1) := by decide +kernel
theorem dX4_tame_93 : decode cX4_tame 93 = .ok (.getfield 10, 3) := by decide +kernel
theorem dX4_tame_96 : decode cX4_tame 96 = .ok (.getfield 117, 3) := by decide +kernel
theorem dX4_tame_99 : decode cX4_tame 99 = .ok (.iload_n 1, 1) := by decide +kernel
theorem dX4_tame_100 : decode cX4_tame 100 = .ok (.iaload, 1) := by decide +kernel
theorem dX4_tame_101 : decode cX4_tame 101 = .ok (.iload_n 2, 1) := by decide +kernel
theorem dX4_tame_102 : decode cX4_tame 102 = .ok (.invokevirtual 161, 3) := by decide +kernel
theorem dX4_tame_105 : decode cX4_tame 105 = .ok (.istore 6, 2) := by decide +kernel
theorem dX4_tame_107 : decode cX4_tame 107 = .ok (.aload_n 0, 1) := by decide +kernel
theorem dX4_tame_108 : decode cX4_tame 108 = .ok (.getfield 19, 3) := by decide +kernel
theorem dX4_tame_111 : decode cX4_tame 111 = .ok (.iload_n 2, 1) := by decide +kernel
theorem dX4_tame_112 : decode cX4_tame 112 = .ok (.iload 5, 2) := by decide +kernel
theorem dX4_tame_114 : decode cX4_tame 114 = .ok (.iconst 0, 1) := by decide +kernel
theorem dX4_tame_115 : decode cX4_tame 115 = .ok (.invokevirtual 64, 3) := by decide +kernel
theorem dX4_tame_118 : decode cX4_tame 118 = .ok (.iload_n 3, 1) := by decide +kernel
theorem dX4_tame_119 : decode cX4_tame 119 = .ok (.ifCond .lt 10, 3) := by decide +kernel
theorem dX4_tame_122 : decode cX4_tame 122 = .ok (.iload 6, 2) := by decide +kernel
theorem dX4_tame_124 : decode cX4_tame 124 = .ok (.iload 4, 2) := by decide +kernel
theorem dX4_tame_126 : decode cX4_tame 126 = .ok (.if_icmp .ge 10, 3) := by decide +kernel
theorem dX4_tame_129 : decode cX4_tame 129 = .ok (.iload 5, 2) := by decide +kernel
theorem dX4_tame_131 : decode cX4_tame 131 = .ok (.istore_n 3, 1) := by decide +kernel
theorem dX4_tame_132 : decode cX4_tame 132 = .ok (.iload 6, 2) := by decide +kernel
theorem dX4_tame_134 : decode cX4_tame 134 = .ok (.istore 4, 2) := by decide +kernel
theorem dX4_tame_136 : decode cX4_tame 136 = .ok (.iinc 5 1, 3) := by decide +kernel
theorem dX4_tame_139 : decode cX4_tame 139 = .ok (.goto (-95), 3) := by decide +kernel
theorem dX4_tame_142 : decode cX4_tame 142 = .ok (.iload_n 3, 1) := by decide +kernel
theorem dX4_tame_143 : decode cX4_tame 143 = .ok (.ifCond .ge 12, 3) := by decide +kernel
theorem dX4_tame_146 : decode cX4_tame 146 = .ok (.aload_n 0, 1) := by decide +kernel
theorem dX4_tame_147 : decode cX4_tame 147 = .ok (.ldc 160, 2) := by decide +kernel
theorem dX4_tame_149 : decode cX4_tame 149 = .ok (.invokevirtual 53, 3) := by decide +kernel
theorem dX4_tame_152 : decode cX4_tame 152 = .ok (.goto 4, 3) := by decide +kernel
theorem dX4_tame_155 : decode cX4_tame 155 = .ok (.iload_n 3, 1) := by decide +kernel
theorem dX4_tame_156 : decode cX4_tame 156 = .ok (.ireturn, 1) := by decide +kernel
theorem dX4_clear_0 : decode cX4_clear 0 = .ok (.iload_n 1, 1) := by decide +kernel
theorem dX4_clear_1 : decode cX4_clear 1 = .ok (.invokestatic 75, 3) := by decide +kernel
theorem dX4_clear_4 : decode cX4_clear 4 = .ok (.ifCond .eq 13, 3) := by decide +kernel
theorem dX4_clear_7 : decode cX4_clear 7 = .ok (.iload_n 2, 1) := by decide +kernel
theorem dX4_clear_8 : decode cX4_clear 8 = .ok (.iconst 0, 1) := by decide +kernel
theorem dX4_clear_9 : decode cX4_clear 9 = .ok (.bipush 20, 2) := by decide +kernel
theorem dX4_clear_11 : decode cX4_clear 11 = .ok (.invokestatic 48, 3) := by decide +kernel
theorem dX4_clear_14 : decode cX4_clear 14 = .ok (.ifCond .ne 10, 3) := by decide +kernel
theorem dX4_clear_17 : decode cX4_clear 17 = .ok (.aload_n 0, 1) := by decide +kernel
theorem dX4_clear_18 : decode cX4_clear 18 = .ok (.ldc 52, 2) := by decide +kernel
theorem dX4_clear_20 : decode cX4_clear 20 = .ok (.invokevirtual 53, 3) := by decide +kernel
theorem dX4_clear_23 : decode cX4_clear 23 = .ok (.ireturn, 1) := by decide +kernel
theorem dX4_clear_24 : decode cX4_clear 24 = .ok (.iconst (-1), 1) := by decide +kernel
theorem dX4_clear_25 : decode cX4_clear 25 = .ok (.istore_n 3, 1) := by decide +kernel
theorem dX4_clear_26 : decode cX4_clear 26 = .ok (.iconst 0, 1) := by decide +kernel
theorem dX4_clear_27 : decode cX4_clear 27 = .ok (.istore 4, 2) := by decide +kernel
theorem dX4_clear_29 : decode cX4_clear 29 = .ok (.iconst 0, 1) := by decide +kernel
theorem dX4_clear_30 : decode cX4_clear 30 = .ok (.istore 5, 2) := by decide +kernel
theorem dX4_clear_32 : decode cX4_clear 32 = .ok (.iload 5, 2) := by decide +kernel
theorem dX4_clear_34 : decode cX4_clear 34 = .ok (.bipush 20, 2) := by decide +kernel
theorem dX4_clear_36 : decode cX4_clear 36 = .ok (.if_icmp .ge 83, 3) := by decide +kernel
theorem dX4_clear_39 : decode cX4_clear 39 = .ok (.aload_n 0, 1) := by decide +kernel
theorem dX4_clear_40 : decode cX4_clear 40 = .ok (.getfield 10, 3) := by decide +kernel
theorem dX4_clear_43 : decode cX4_clear 43 = .ok (.getfield 57, 3) := by decide +kernel
theorem dX4_clear_46 : decode cX4_clear 46 = .ok (.iload_n 1, 1) := by decide +kernel
theorem dX4_clear_47 : decode cX4_clear 47 = .ok (.iload 5, 2) := by decide +kernel
theorem dX4_clear_49 : decode cX4_clear 49 = .ok (.invokestatic 60, 3) := by decide +kernel
theorem dX4_clear_52 : decode cX4_clear 52 = .ok (.iaload, 1) := by decide +kernel
theorem dX4_clear_53 : decode cX4_clear 53 = .ok (.ifCond .eq 60, 3) := by decide +kernel
theorem dX4_clear_56 : decode cX4_clear 56 = .ok (.aload_n 0, 1) := by decide +kernel
theorem dX4_clear_57 : decode cX4_clear 57 = .ok (.getfield 19, 3) := by decide +kernel
theorem dX4_clear_60 : decode cX4_clear 60 = .ok (.aload_n 0, 1) := by decide +kernel
theorem dX4_clear_61 : decode cX4_clear 61 = .ok (.getfield 10, 3) := by decide +kernel
theorem dX4_clear_64 : decode cX4_clear 64 = .ok (.invokevirtual 152, 3) := by decide +kernel
theorem dX4_clear_67 : decode cX4_clear 67 = .ok (.aload_n 0, 1) := by decide +kernel
theorem dX4_clear_68 : decode cX4_clear 68 = .ok (.getfield 19, 3) := by decide +kernel
theorem dX4_clear_71 : decode cX4_clear 71 = .ok (.iload_n 1, 1) := by decide +kernel
theorem dX4_clear_72 : decode cX4_clear 72 = .ok (.iload 5, 2) := by decide +kernel
theorem dX4_clear_74 : decode cX4_clear 74 = .ok (.iconst 0, 1) := by decide +kernel
theorem dX4_clear_75 : decode cX4_clear 75 = .ok (.invokevirtual 64, 3) := by decide +kernel
theorem dX4_clear_78 : decode cX4_clear 78 = .ok (.aload_n 0, 1) := by decide +kernel
theorem dX4_clear_79 : decode cX4_clear 79 = .ok (.getfield 19, 3) := by decide +kernel
theorem dX4_clear_82 : decode cX4_clear 82 = .ok (.iload_n 2, 1) := by decide +kernel
theorem dX4_clear_83 : decode cX4_clear 83 = .ok (.invokevirtual 148, 3) := by decide +kernel
theorem dX4_clear_86 : decode cX4_clear 86 = .ok (.aload_n 0, 1) := by decide +kernel
theorem dX4_clear_87 : decode cX4_clear 87 = .ok (.getfield 19, 3) := by decide +kernel
theorem dX4_clear_90 : decode cX4_clear 90 = .ok (.invokevirtual 94, 3) := by decide +kernel
theorem dX4_clear_93 : decode cX4_clear 93 = .ok (.istore 6, 2) := by decide +kernel
theorem dX4_clear_95 : decode cX4_clear 95 = .ok (.iload_n 3, 1) := by decide +kernel
theorem dX4_clear_96 : decode cX4_clear 96 = .ok (.ifCond .lt 10, 3) := by decide +kernel
theorem dX4_clear_99 : decode cX4_clear 99 = .ok (.iload 6, 2) := by decide +kernel
theorem dX4_clear_101 : decode cX4_clear 101 = .ok (.iload 4, 2) := by decide +kernel
theorem dX4_clear_103 : decode cX4_clear 103 = .ok (.if_icmp .ge 10, 3) := by decide +kernel
theorem dX4_clear_106 : decode cX4_clear 106 = .ok (.iload 5, 2) := by decide +kernel
theorem dX4_clear_108 : decode cX4_clear 108 = .ok (.istore_n 3, 1) := by decide +kernel
theorem dX4_clear_109 : decode cX4_clear 109 = .ok (.iload 6, 2) := by decide +kernel
theorem dX4_clear_111 : decode cX4_clear 111 = .ok (.istore 4, 2) := by decide +kernel
theorem dX4_clear_113 : decode cX4_clear 113 = .ok (.iinc 5 1, 3) := by decide +kernel
theorem dX4_clear_116 : decode cX4_clear 116 = .ok (.goto (-84), 3) := by decide +kernel
theorem dX4_clear_119 : decode cX4_clear 119 = .ok (.iload_n 3, 1) := by decide +kernel
theorem dX4_clear_120 : decode cX4_clear 120 = .ok (.ifCond .ge 12, 3) := by decide +kernel
theorem dX4_clear_123 : decode cX4_clear 123 = .ok (.aload_n 0, 1) := by decide +kernel
theorem dX4_clear_124 : decode cX4_clear 124 = .ok (.ldc 160, 2) := by decide +kernel
theorem dX4_clear_126 : decode cX4_clear 126 = .ok (.invokevirtual 53, 3) := by decide +kernel
theorem dX4_clear_129 : decode cX4_clear 129 = .ok (.goto 4, 3) := by decide +kernel
theorem dX4_clear_132 : decode cX4_clear 132 = .ok (.iload_n 3, 1) := by decide +kernel
theorem dX4_clear_133 : decode cX4_clear 133 = .ok (.ireturn, 1) := by decide +kernel
theorem dX4_lower_0 : decode cX4_lower 0 = .ok (.iload_n 1, 1) := by decide +kernel
theorem dX4_lower_1 : decode cX4_lower 1 = .ok (.iconst 0, 1) := by decide +kernel
theorem dX4_lower_2 : decode cX4_lower 2 = .ok (.bipush 20, 2) := by decide +kernel
theorem dX4_lower_4 : decode cX4_lower 4 = .ok (.invokestatic 48, 3) := by decide +kernel
theorem dX4_lower_7 : decode cX4_lower 7 = .ok (.ifCond .eq 13, 3) := by decide +kernel
theorem dX4_lower_10 : decode cX4_lower 10 = .ok (.iload_n 2, 1) := by decide +kernel
theorem dX4_lower_11 : decode cX4_lower 11 = .ok (.iconst 0, 1) := by decide +kernel
theorem dX4_lower_12 : decode cX4_lower 12 = .ok (.ldc 164, 2) := by decide +kernel
theorem dX4_lower_14 : decode cX4_lower 14 = .ok (.invokestatic 48, 3) := by decide +kernel
theorem dX4_lower_17 : decode cX4_lower 17 = .ok (.ifCond .ne 10, 3) := by decide +kernel
theorem dX4_lower_20 : decode cX4_lower 20 = .ok (.aload_n 0, 1) := by decide +kernel
theorem dX4_lower_21 : decode cX4_lower 21 = .ok (.ldc 52, 2) := by decide +kernel
theorem dX4_lower_23 : decode cX4_lower 23 = .ok (.invokevirtual 53, 3) := by decide +kernel
theorem dX4_lower_26 : decode cX4_lower 26 = .ok (.ireturn, 1) := by decide +kernel
theorem dX4_lower_27 : decode cX4_lower 27 = .ok (.bipush 6, 2) := by decide +kernel
theorem dX4_lower_29 : decode cX4_lower 29 = .ok (.istore_n 3, 1) := by decide +kernel
theorem dX4_lower_30 : decode cX4_lower 30 = .ok (.iload_n 3, 1) := by decide +kernel
theorem dX4_lower_31 : decode cX4_lower 31 = .ok (.iconst 1, 1) := by decide +kernel
theorem dX4_lower_32 : decode cX4_lower 32 = .ok (.if_icmp .lt 49, 3) := by decide +kernel
theorem dX4_lower_35 : decode cX4_lower 35 = .ok (.aload_n 0, 1) := by decide +kernel
theorem dX4_lower_36 : decode cX4_lower 36 = .ok (.getfield 19, 3) := by decide +kernel
theorem dX4_lower_39 : decode cX4_lower 39 = .ok (.aload_n 0, 1) := by decide +kernel
theorem dX4_lower_40 : decode cX4_lower 40 = .ok (.getfield 10, 3) := by decide +kernel
theorem dX4_lower_43 : decode cX4_lower 43 = .ok (.invokevirtual 152, 3) := by decide +kernel
theorem dX4_lower_46 : decode cX4_lower 46 = .ok (.aload_n 0, 1) := by decide +kernel
theorem dX4_lower_47 : decode cX4_lower 47 = .ok (.getfield 19, 3) := by decide +kernel
theorem dX4_lower_50 : decode cX4_lower 50 = .ok (.iload_n 3, 1) := by decide +kernel
theorem dX4_lower_51 : decode cX4_lower 51 = .ok (.putfield 71, 3) := by decide +kernel
theorem dX4_lower_54 : decode cX4_lower 54 = .ok (.aload_n 0, 1) := by decide +kernel
theorem dX4_lower_55 : decode cX4_lower 55 = .ok (.getfield 19, 3) := by decide +kernel
theorem dX4_lower_58 : decode cX4_lower 58 = .ok (.iload_n 1, 1) := by decide +kernel
theorem dX4_lower_59 : decode cX4_lower 59 = .ok (.invokevirtual 148, 3) := by decide +kernel
theorem dX4_lower_62 : decode cX4_lower 62 = .ok (.aload_n 0, 1) := by decide +kernel
theorem dX4_lower_63 : decode cX4_lower 63 = .ok (.getfield 19, 3) := by decide +kernel
theorem dX4_lower_66 : decode cX4_lower 66 = .ok (.invokevirtual 94, 3) := by decide +kernel
theorem dX4_lower_69 : decode cX4_lower 69 = .ok (.iload_n 2, 1) := by decide +kernel
theorem dX4_lower_70 : decode cX4_lower 70 = .ok (.if_icmp .gt 5, 3) := by decide +kernel
theorem dX4_lower_73 : decode cX4_lower 73 = .ok (.iload_n 3, 1) := by decide +kernel
theorem dX4_lower_74 : decode cX4_lower 74 = .ok (.ireturn, 1) := by decide +kernel
theorem dX4_lower_75 : decode cX4_lower 75 = .ok (.iinc 3 (-1), 3) := by decide +kernel
theorem dX4_lower_78 : decode cX4_lower 78 = .ok (.goto (-48), 3) := by decide +kernel
theorem dX4_lower_81 : decode cX4_lower 81 = .ok (.aload_n 0, 1) := by decide +kernel
theorem dX4_lower_82 : decode cX4_lower 82 = .ok (.ldc 160, 2) := by decide +kernel
theorem dX4_lower_84 : decode cX4_lower 84 = .ok (.invokevirtual 53, 3) := by decide +kernel
theorem dX4_lower_87 : decode cX4_lower 87 = .ok (.ireturn, 1) := by decide +kernel
theorem dX4_kind_0 : decode cX4_kind 0 = .ok (.aload_n 0, 1) := by decide +kernel
theorem dX4_kind_1 : decode cX4_kind 1 = .ok (.getfield 10, 3) := by decide +kernel
theorem dX4_kind_4 : decode cX4_kind 4 = .ok (.iload_n 1, 1) := by decide +kernel
theorem dX4_kind_5 : decode cX4_kind 5 = .ok (.invokevirtual 111, 3) := by decide +kernel
theorem dX4_kind_8 : decode cX4_kind 8 = .ok (.ifCond .eq 10, 3) := by decide +kernel
theorem dX4_kind_11 : decode cX4_kind 11 = .ok (.iload_n 2, 1) := by decide +kernel
theorem dX4_kind_12 : decode cX4_kind 12 = .ok (.invokestatic 75, 3) := by decide +kernel
theorem dX4_kind_15 : decode cX4_kind 15 = .ok (.ifCond .ne 10, 3) := by decide +kernel
theorem dX4_kind_18 : decode cX4_kind 18 = .ok (.aload_n 0, 1) := by decide +kernel
theorem dX4_kind_19 : decode cX4_kind 19 = .ok (.ldc 52, 2) := by decide +kernel
theorem dX4_kind_21 : decode cX4_kind 21 = .ok (.invokevirtual 53, 3) := by decide +kernel
theorem dX4_kind_24 : decode cX4_kind 24 = .ok (.ireturn, 1) := by decide +kernel
theorem dX4_kind_25 : decode cX4_kind 25 = .ok (.iconst 0, 1) := by decide +kernel
theorem dX4_kind_26 : decode cX4_kind 26 = .ok (.istore_n 3, 1) := by decide +kernel
theorem dX4_kind_27 : decode cX4_kind 27 = .ok (.aload_n 0, 1) := by decide +kernel
theorem dX4_kind_28 : decode cX4_kind 28 = .ok (.getfield 10, 3) := by decide +kernel
theorem dX4_kind_31 : decode cX4_kind 31 = .ok (.iconst 0, 1) := by decide +kernel
theorem dX4_kind_32 : decode cX4_kind 32 = .ok (.aload_n 0, 1) := by decide +kernel
theorem dX4_kind_33 : decode cX4_kind 33 = .ok (.getfield 10, 3) := by decide +kernel
theorem dX4_kind_36 : decode cX4_kind 36 = .ok (.getfield 117, 3) := by decide +kernel
theorem dX4_kind_39 : decode cX4_kind 39 = .ok (.iload_n 1, 1) := by decide +kernel
theorem dX4_kind_40 : decode cX4_kind 40 = .ok (.iaload, 1) := by decide +kernel
theorem dX4_kind_41 : decode cX4_kind 41 = .ok (.iload_n 2, 1) := by decide +kernel
theorem dX4_kind_42 : decode cX4_kind 42 = .ok (.invokevirtual 128, 3) := by decide +kernel
theorem dX4_kind_45 : decode cX4_kind 45 = .ok (.istore 4, 2) := by decide +kernel
theorem dX4_kind_47 : decode cX4_kind 47 = .ok (.iconst 1, 1) := by decide +kernel
theorem dX4_kind_48 : decode cX4_kind 48 = .ok (.istore 5, 2) := by decide +kernel
theorem dX4_kind_50 : decode cX4_kind 50 = .ok (.iload 5, 2) := by decide +kernel
theorem dX4_kind_52 : decode cX4_kind 52 = .ok (.bipush 6, 2) := by decide +kernel
theorem dX4_kind_54 : decode cX4_kind 54 = .ok (.if_icmp .ge 44, 3) := by decide +kernel
theorem dX4_kind_57 : decode cX4_kind 57 = .ok (.aload_n 0, 1) := by decide +kernel
theorem dX4_kind_58 : decode cX4_kind 58 = .ok (.getfield 10, 3) := by decide +kernel
theorem dX4_kind_61 : decode cX4_kind 61 = .ok (.iload 5, 2) := by decide +kernel
theorem dX4_kind_63 : decode cX4_kind 63 = .ok (.aload_n 0, 1) := by decide +kernel
theorem dX4_kind_64 : decode cX4_kind 64 = .ok (.getfield 10, 3) := by decide +kernel
theorem dX4_kind_67 : decode cX4_kind 67 = .ok (.getfield 117, 3) := by decide +kernel
theorem dX4_kind_70 : decode cX4_kind 70 = .ok (.iload_n 1, 1) := by decide +kernel
theorem dX4_kind_71 : decode cX4_kind 71 = .ok (.iaload, 1) := by decide +kernel
theorem dX4_kind_72 : decode cX4_kind 72 = .ok (.iload_n 2, 1) := by decide +kernel
theorem dX4_kind_73 : decode cX4_kind 73 = .ok (.invokevirtual 128, 3) := by decide +kernel
theorem dX4_kind_76 : decode cX4_kind 76 = .ok (.istore 6, 2) := by decide +kernel
theorem dX4_kind_78 : decode cX4_kind 78 = .ok (.iload 6, 2) := by decide +kernel
theorem dX4_kind_80 : decode cX4_kind 80 = .ok (.iload 4, 2) := by decide +kernel
theorem dX4_kind_82 : decode cX4_kind 82 = .ok (.if_icmp .ge 10, 3) := by decide +kernel
theorem dX4_kind_85 : decode cX4_kind 85 = .ok (.iload 5, 2) := by decide +kernel
theorem dX4_kind_87 : decode cX4_kind 87 = .ok (.istore_n 3, 1) := by decide +kernel
theorem dX4_kind_88 : decode cX4_kind 88 = .ok (.iload 6, 2) := by decide +kernel
theorem dX4_kind_90 : decode cX4_kind 90 = .ok (.istore 4, 2) := by decide +kernel
theorem dX4_kind_92 : decode cX4_kind 92 = .ok (.iinc 5 1, 3) := by decide +kernel
theorem dX4_kind_95 : decode cX4_kind 95 = .ok (.goto (-45), 3) := by decide +kernel
theorem dX4_kind_98 : decode cX4_kind 98 = .ok (.iload_n 3, 1) := by decide +kernel
theorem dX4_kind_99 : decode cX4_kind 99 = .ok (.ireturn, 1) := by decide +kernel
theorem dX4_wish_0 : decode cX4_wish 0 = .ok (.aload_n 0, 1) := by decide +kernel
theorem dX4_wish_1 : decode cX4_wish 1 = .ok (.getfield 10, 3) := by decide +kernel
theorem dX4_wish_4 : decode cX4_wish 4 = .ok (.iload_n 1, 1) := by decide +kernel
theorem dX4_wish_5 : decode cX4_wish 5 = .ok (.invokevirtual 111, 3) := by decide +kernel
theorem dX4_wish_8 : decode cX4_wish 8 = .ok (.ifCond .eq 21, 3) := by decide +kernel
theorem dX4_wish_11 : decode cX4_wish 11 = .ok (.iload_n 2, 1) := by decide +kernel
theorem dX4_wish_12 : decode cX4_wish 12 = .ok (.invokestatic 75, 3) := by decide +kernel
theorem dX4_wish_15 : decode cX4_wish 15 = .ok (.ifCond .eq 14, 3) := by decide +kernel
theorem dX4_wish_18 : decode cX4_wish 18 = .ok (.iload_n 3, 1) := by decide +kernel
theorem dX4_wish_19 : decode cX4_wish 19 = .ok (.iconst 0, 1) := by decide +kernel
theorem dX4_wish_20 : decode cX4_wish 20 = .ok (.sipush 9999, 3) := by decide +kernel
theorem dX4_wish_23 : decode cX4_wish 23 = .ok (.invokestatic 48, 3) := by decide +kernel
theorem dX4_wish_26 : decode cX4_wish 26 = .ok (.ifCond .ne 10, 3) := by decide +kernel
theorem dX4_wish_29 : decode cX4_wish 29 = .ok (.aload_n 0, 1) := by decide +kernel
theorem dX4_wish_30 : decode cX4_wish 30 = .ok (.ldc 52, 2) := by decide +kernel
theorem dX4_wish_32 : decode cX4_wish 32 = .ok (.invokevirtual 53, 3) := by decide +kernel
theorem dX4_wish_35 : decode cX4_wish 35 = .ok (.ireturn, 1) := by decide +kernel
theorem dX4_wish_36 : decode cX4_wish 36 = .ok (.aload_n 0, 1) := by decide +kernel
theorem dX4_wish_37 : decode cX4_wish 37 = .ok (.getfield 10, 3) := by decide +kernel
theorem dX4_wish_40 : decode cX4_wish 40 = .ok (.getfield 114, 3) := by decide +kernel
theorem dX4_wish_43 : decode cX4_wish 43 = .ok (.iload_n 1, 1) := by decide +kernel
theorem dX4_wish_44 : decode cX4_wish 44 = .ok (.iaload, 1) := by decide +kernel
theorem dX4_wish_45 : decode cX4_wish 45 = .ok (.istore 4, 2) := by decide +kernel
theorem dX4_wish_47 : decode cX4_wish 47 = .ok (.iconst (-1), 1) := by decide +kernel
theorem dX4_wish_48 : decode cX4_wish 48 = .ok (.istore 5, 2) := by decide +kernel
theorem dX4_wish_50 : decode cX4_wish 50 = .ok (.iconst 0, 1) := by decide +kernel
theorem dX4_wish_51 : decode cX4_wish 51 = .ok (.istore 6, 2) := by decide +kernel
theorem dX4_wish_53 : decode cX4_wish 53 = .ok (.bipush 10, 2) := by decide +kernel
theorem dX4_wish_55 : decode cX4_wish 55 = .ok (.istore 7, 2) := by decide +kernel
theorem dX4_wish_57 : decode cX4_wish 57 = .ok (.iload 7, 2) := by decide +kernel
theorem dX4_wish_59 : decode cX4_wish 59 = .ok (.bipush 80, 2) := by decide +kernel
theorem dX4_wish_61 : decode cX4_wish 61 = .ok (.if_icmp .gt 59, 3) := by decide +kernel
theorem dX4_wish_64 : decode cX4_wish 64 = .ok (.aload_n 0, 1) := by decide +kernel
theorem dX4_wish_65 : decode cX4_wish 65 = .ok (.getfield 10, 3) := by decide +kernel
theorem dX4_wish_68 : decode cX4_wish 68 = .ok (.iload 4, 2) := by decide +kernel
theorem dX4_wish_70 : decode cX4_wish 70 = .ok (.iload 7, 2) := by decide +kernel
theorem dX4_wish_72 : decode cX4_wish 72 = .ok (.iload_n 2, 1) := by decide +kernel
theorem dX4_wish_73 : decode cX4_wish 73 = .ok (.invokevirtual 128, 3) := by decide +kernel
theorem dX4_wish_76 : decode cX4_wish 76 = .ok (.iload_n 3, 1) := by decide +kernel
theorem dX4_wish_77 : decode cX4_wish 77 = .ok (.if_icmp .gt 37, 3) := by decide +kernel
theorem dX4_wish_80 : decode cX4_wish 80 = .ok (.aload_n 0, 1) := by decide +kernel
theorem dX4_wish_81 : decode cX4_wish 81 = .ok (.getfield 10, 3) := by decide +kernel
theorem dX4_wish_84 : decode cX4_wish 84 = .ok (.iload 4, 2) := by decide +kernel
theorem dX4_wish_86 : decode cX4_wish 86 = .ok (.iload 7, 2) := by decide +kernel
theorem dX4_wish_88 : decode cX4_wish 88 = .ok (.iload_n 2, 1) := by decide +kernel
theorem dX4_wish_89 : decode cX4_wish 89 = .ok (.invokevirtual 132, 3) := by decide +kernel
theorem dX4_wish_92 : decode cX4_wish 92 = .ok (.istore 8, 2) := by decide +kernel
theorem dX4_wish_94 : decode cX4_wish 94 = .ok (.iload 5, 2) := by decide +kernel
theorem dX4_wish_96 : decode cX4_wish 96 = .ok (.ifCond .lt 10, 3) := by decide +kernel
theorem dX4_wish_99 : decode cX4_wish 99 = .ok (.iload 8, 2) := by decide +kernel
theorem dX4_wish_101 : decode cX4_wish 101 = .ok (.iload 6, 2) := by decide +kernel
theorem dX4_wish_103 : decode cX4_wish 103 = .ok (.if_icmp .ge 11, 3) := by decide +kernel
theorem dX4_wish_106 : decode cX4_wish 106 = .ok (.iload 7, 2) := by decide +kernel
theorem dX4_wish_108 : decode cX4_wish 108 = .ok (.istore 5, 2) := by decide +kernel
theorem dX4_wish_110 : decode cX4_wish 110 = .ok (.iload 8, 2) := by decide +kernel
theorem dX4_wish_112 : decode cX4_wish 112 = .ok (.istore 6, 2) := by decide +kernel
theorem dX4_wish_114 : decode cX4_wish 114 = .ok (.iinc 7 1, 3) := by decide +kernel
theorem dX4_wish_117 : decode cX4_wish 117 = .ok (.goto (-60), 3) := by decide +kernel
theorem dX4_wish_120 : decode cX4_wish 120 = .ok (.iload 5, 2) := by decide +kernel
theorem dX4_wish_122 : decode cX4_wish 122 = .ok (.ifCond .ge 12, 3) := by decide +kernel
theorem dX4_wish_125 : decode cX4_wish 125 = .ok (.aload_n 0, 1) := by decide +kernel
theorem dX4_wish_126 : decode cX4_wish 126 = .ok (.ldc 160, 2) := by decide +kernel
theorem dX4_wish_128 : decode cX4_wish 128 = .ok (.invokevirtual 53, 3) := by decide +kernel
theorem dX4_wish_131 : decode cX4_wish 131 = .ok (.goto 5, 3) := by decide +kernel
theorem dX4_wish_134 : decode cX4_wish 134 = .ok (.iload 5, 2) := by decide +kernel
theorem dX4_wish_136 : decode cX4_wish 136 = .ok (.ireturn, 1) := by decide +kernel
theorem dX4_drives_0 : decode cX4_drives 0 = .ok (.iload_n 1, 1) := by decide +kernel
theorem dX4_drives_1 : decode cX4_drives 1 = .ok (.iconst 0, 1) := by decide +kernel
theorem dX4_drives_2 : decode cX4_drives 2 = .ok (.bipush 19, 2) := by decide +kernel
theorem dX4_drives_4 : decode cX4_drives 4 = .ok (.invokestatic 48, 3) := by decide +kernel
theorem dX4_drives_7 : decode cX4_drives 7 = .ok (.ifCond .ne 10, 3) := by decide +kernel
theorem dX4_drives_10 : decode cX4_drives 10 = .ok (.aload_n 0, 1) := by decide +kernel
theorem dX4_drives_11 : decode cX4_drives 11 = .ok (.ldc 52, 2) := by decide +kernel
theorem dX4_drives_13 : decode cX4_drives 13 = .ok (.invokevirtual 53, 3) := by decide +kernel
theorem dX4_drives_16 : decode cX4_drives 16 = .ok (.ireturn, 1) := by decide +kernel
theorem dX4_drives_17 : decode cX4_drives 17 = .ok (.iconst 0, 1) := by decide +kernel
theorem dX4_drives_18 : decode cX4_drives 18 = .ok (.istore_n 2, 1) := by decide +kernel
theorem dX4_drives_19 : decode cX4_drives 19 = .ok (.iconst (-1), 1) := by decide +kernel
theorem dX4_drives_20 : decode cX4_drives 20 = .ok (.istore_n 3, 1) := by decide +kernel
theorem dX4_drives_21 : decode cX4_drives 21 = .ok (.iconst 0, 1) := by decide +kernel
theorem dX4_drives_22 : decode cX4_drives 22 = .ok (.istore 4, 2) := by decide +kernel
theorem dX4_drives_24 : decode cX4_drives 24 = .ok (.iload 4, 2) := by decide +kernel
theorem dX4_drives_26 : decode cX4_drives 26 = .ok (.iconst 3, 1) := by decide +kernel
theorem dX4_drives_27 : decode cX4_drives 27 = .ok (.if_icmp .ge 64, 3) := by decide +kernel
theorem dX4_drives_30 : decode cX4_drives 30 = .ok (.aload_n 0, 1) := by decide +kernel
theorem dX4_drives_31 : decode cX4_drives 31 = .ok (.getfield 19, 3) := by decide +kernel
theorem dX4_drives_34 : decode cX4_drives 34 = .ok (.aload_n 0, 1) := by decide +kernel
theorem dX4_drives_35 : decode cX4_drives 35 = .ok (.getfield 10, 3) := by decide +kernel
theorem dX4_drives_38 : decode cX4_drives 38 = .ok (.invokevirtual 152, 3) := by decide +kernel
theorem dX4_drives_41 : decode cX4_drives 41 = .ok (.aload_n 0, 1) := by decide +kernel
theorem dX4_drives_42 : decode cX4_drives 42 = .ok (.getfield 19, 3) := by decide +kernel
theorem dX4_drives_45 : decode cX4_drives 45 = .ok (.iload 4, 2) := by decide +kernel
theorem dX4_drives_47 : decode cX4_drives 47 = .ok (.iload_n 1, 1) := by decide +kernel
theorem dX4_drives_48 : decode cX4_drives 48 = .ok (.iconst 1, 1) := by decide +kernel
theorem dX4_drives_49 : decode cX4_drives 49 = .ok (.invokevirtual 64, 3) := by decide +kernel
theorem dX4_drives_52 : decode cX4_drives 52 = .ok (.aload_n 0, 1) := by decide +kernel
theorem dX4_drives_53 : decode cX4_drives 53 = .ok (.getfield 19, 3) := by decide +kernel
theorem dX4_drives_56 : decode cX4_drives 56 = .ok (.iconst 1, 1) := by decide +kernel
theorem dX4_drives_57 : decode cX4_drives 57 = .ok (.invokevirtual 148, 3) := by decide +kernel
theorem dX4_drives_60 : decode cX4_drives 60 = .ok (.aload_n 0, 1) := by decide +kernel
theorem dX4_drives_61 : decode cX4_drives 61 = .ok (.getfield 19, 3) := by decide +kernel
theorem dX4_drives_64 : decode cX4_drives 64 = .ok (.aload_n 0, 1) := by decide +kernel
theorem dX4_drives_65 : decode cX4_drives 65 = .ok (.getfield 10, 3) := by decide +kernel
theorem dX4_drives_68 : decode cX4_drives 68 = .ok (.invokevirtual 165, 3) := by decide +kernel
theorem dX4_drives_71 : decode cX4_drives 71 = .ok (.istore 5, 2) := by decide +kernel
theorem dX4_drives_73 : decode cX4_drives 73 = .ok (.iload 5, 2) := by decide +kernel
theorem dX4_drives_75 : decode cX4_drives 75 = .ok (.iload_n 3, 1) := by decide +kernel
theorem dX4_drives_76 : decode cX4_drives 76 = .ok (.if_icmp .le 9, 3) := by decide +kernel
theorem dX4_drives_79 : decode cX4_drives 79 = .ok (.iload 4, 2) := by decide +kernel
theorem dX4_drives_81 : decode cX4_drives 81 = .ok (.istore_n 2, 1) := by decide +kernel
theorem dX4_drives_82 : decode cX4_drives 82 = .ok (.iload 5, 2) := by decide +kernel
theorem dX4_drives_84 : decode cX4_drives 84 = .ok (.istore_n 3, 1) := by decide +kernel
theorem dX4_drives_85 : decode cX4_drives 85 = .ok (.iinc 4 1, 3) := by decide +kernel
theorem dX4_drives_88 : decode cX4_drives 88 = .ok (.goto (-64), 3) := by decide +kernel
theorem dX4_drives_91 : decode cX4_drives 91 = .ok (.iload_n 2, 1) := by decide +kernel
theorem dX4_drives_92 : decode cX4_drives 92 = .ok (.ireturn, 1) := by decide +kernel
theorem dX4_slowest_0 : decode cX4_slowest 0 = .ok (.iconst (-1), 1) := by decide +kernel
theorem dX4_slowest_1 : decode cX4_slowest 1 = .ok (.istore_n 1, 1) := by decide +kernel
theorem dX4_slowest_2 : decode cX4_slowest 2 = .ok (.iconst 0, 1) := by decide +kernel
theorem dX4_slowest_3 : decode cX4_slowest 3 = .ok (.istore_n 2, 1) := by decide +kernel
theorem dX4_slowest_4 : decode cX4_slowest 4 = .ok (.iconst 0, 1) := by decide +kernel
theorem dX4_slowest_5 : decode cX4_slowest 5 = .ok (.istore_n 3, 1) := by decide +kernel
theorem dX4_slowest_6 : decode cX4_slowest 6 = .ok (.iload_n 3, 1) := by decide +kernel
theorem dX4_slowest_7 : decode cX4_slowest 7 = .ok (.aload_n 0, 1) := by decide +kernel
theorem dX4_slowest_8 : decode cX4_slowest 8 = .ok (.getfield 10, 3) := by decide +kernel
theorem dX4_slowest_11 : decode cX4_slowest 11 = .ok (.getfield 104, 3) := by decide +kernel
theorem dX4_slowest_14 : decode cX4_slowest 14 = .ok (.if_icmp .ge 34, 3) := by decide +kernel
theorem dX4_slowest_17 : decode cX4_slowest 17 = .ok (.aload_n 0, 1) := by decide +kernel
theorem dX4_slowest_18 : decode cX4_slowest 18 = .ok (.getfield 10, 3) := by decide +kernel
theorem dX4_slowest_21 : decode cX4_slowest 21 = .ok (.iload_n 3, 1) := by decide +kernel
theorem dX4_slowest_22 : decode cX4_slowest 22 = .ok (.invokevirtual 169, 3) := by decide +kernel
theorem dX4_slowest_25 : decode cX4_slowest 25 = .ok (.istore 4, 2) := by decide +kernel
theorem dX4_slowest_27 : decode cX4_slowest 27 = .ok (.iload_n 1, 1) := by decide +kernel
theorem dX4_slowest_28 : decode cX4_slowest 28 = .ok (.ifCond .lt 9, 3) := by decide +kernel
theorem dX4_slowest_31 : decode cX4_slowest 31 = .ok (.iload 4, 2) := by decide +kernel
theorem dX4_slowest_33 : decode cX4_slowest 33 = .ok (.iload_n 2, 1) := by decide +kernel
theorem dX4_slowest_34 : decode cX4_slowest 34 = .ok (.if_icmp .le 8, 3) := by decide +kernel
theorem dX4_slowest_37 : decode cX4_slowest 37 = .ok (.iload_n 3, 1) := by decide +kernel
theorem dX4_slowest_38 : decode cX4_slowest 38 = .ok (.istore_n 1, 1) := by decide +kernel
theorem dX4_slowest_39 : decode cX4_slowest 39 = .ok (.iload 4, 2) := by decide +kernel
theorem dX4_slowest_41 : decode cX4_slowest 41 = .ok (.istore_n 2, 1) := by decide +kernel
theorem dX4_slowest_42 : decode cX4_slowest 42 = .ok (.iinc 3 1, 3) := by decide +kernel
theorem dX4_slowest_45 : decode cX4_slowest 45 = .ok (.goto (-39), 3) := by decide +kernel
theorem dX4_slowest_48 : decode cX4_slowest 48 = .ok (.iload_n 1, 1) := by decide +kernel
theorem dX4_slowest_49 : decode cX4_slowest 49 = .ok (.ifCond .ge 12, 3) := by decide +kernel
theorem dX4_slowest_52 : decode cX4_slowest 52 = .ok (.aload_n 0, 1) := by decide +kernel
theorem dX4_slowest_53 : decode cX4_slowest 53 = .ok (.ldc 160, 2) := by decide +kernel
theorem dX4_slowest_55 : decode cX4_slowest 55 = .ok (.invokevirtual 53, 3) := by decide +kernel
theorem dX4_slowest_58 : decode cX4_slowest 58 = .ok (.goto 4, 3) := by decide +kernel
theorem dX4_slowest_61 : decode cX4_slowest 61 = .ok (.iload_n 1, 1) := by decide +kernel
theorem dX4_slowest_62 : decode cX4_slowest 62 = .ok (.ireturn, 1) := by decide +kernel
theorem dX4_feed_0 : decode cX4_feed 0 = .ok (.iload_n 2, 1) := by decide +kernel
theorem dX4_feed_1 : decode cX4_feed 1 = .ok (.iconst 1, 1) := by decide +kernel
theorem dX4_feed_2 : decode cX4_feed 2 = .ok (.iconst 4, 1) := by decide +kernel
theorem dX4_feed_3 : decode cX4_feed 3 = .ok (.invokestatic 48, 3) := by decide +kernel
theorem dX4_feed_6 : decode cX4_feed 6 = .ok (.ifCond .ne 10, 3) := by decide +kernel
theorem dX4_feed_9 : decode cX4_feed 9 = .ok (.aload_n 0, 1) := by decide +kernel
theorem dX4_feed_10 : decode cX4_feed 10 = .ok (.ldc 52, 2) := by decide +kernel
theorem dX4_feed_12 : decode cX4_feed 12 = .ok (.invokevirtual 53, 3) := by decide +kernel
theorem dX4_feed_15 : decode cX4_feed 15 = .ok (.ireturn, 1) := by decide +kernel
theorem dX4_feed_16 : decode cX4_feed 16 = .ok (.aload_n 0, 1) := by decide +kernel
theorem dX4_feed_17 : decode cX4_feed 17 = .ok (.getfield 25, 3) := by decide +kernel
theorem dX4_feed_20 : decode cX4_feed 20 = .ok (.getfield 172, 3) := by decide +kernel
theorem dX4_feed_23 : decode cX4_feed 23 = .ok (.iload_n 2, 1) := by decide +kernel
theorem dX4_feed_24 : decode cX4_feed 24 = .ok (.iadd, 1) := by decide +kernel
theorem dX4_feed_25 : decode cX4_feed 25 = .ok (.bipush 120, 2) := by decide +kernel
theorem dX4_feed_27 : decode cX4_feed 27 = .ok (.if_icmp .le 10, 3) := by decide +kernel
theorem dX4_feed_30 : decode cX4_feed 30 = .ok (.aload_n 0, 1) := by decide +kernel
theorem dX4_feed_31 : decode cX4_feed 31 = .ok (.ldc 107, 2) := by decide +kernel
theorem dX4_feed_33 : decode cX4_feed 33 = .ok (.invokevirtual 53, 3) := by decide +kernel
theorem dX4_feed_36 : decode cX4_feed 36 = .ok (.ireturn, 1) := by decide +kernel
theorem dX4_feed_37 : decode cX4_feed 37 = .ok (.aload_n 0, 1) := by decide +kernel
theorem dX4_feed_38 : decode cX4_feed 38 = .ok (.getfield 25, 3) := by decide +kernel
theorem dX4_feed_41 : decode cX4_feed 41 = .ok (.iload_n 1, 1) := by decide +kernel
theorem dX4_feed_42 : decode cX4_feed 42 = .ok (.iload_n 2, 1) := by decide +kernel
theorem dX4_feed_43 : decode cX4_feed 43 = .ok (.invokevirtual 175, 3) := by decide +kernel
theorem dX4_feed_46 : decode cX4_feed 46 = .ok (.aload_n 0, 1) := by decide +kernel
theorem dX4_feed_47 : decode cX4_feed 47 = .ok (.getfield 25, 3) := by decide +kernel
theorem dX4_feed_50 : decode cX4_feed 50 = .ok (.getfield 172, 3) := by decide +kernel
theorem dX4_feed_53 : decode cX4_feed 53 = .ok (.ireturn, 1) := by decide +kernel
theorem dX4_wipe_0 : decode cX4_wipe 0 = .ok (.aload_n 0, 1) := by decide +kernel
theorem dX4_wipe_1 : decode cX4_wipe 1 = .ok (.getfield 25, 3) := by decide +kernel
theorem dX4_wipe_4 : decode cX4_wipe 4 = .ok (.getfield 172, 3) := by decide +kernel
theorem dX4_wipe_7 : decode cX4_wipe 7 = .ok (.istore_n 1, 1) := by decide +kernel
theorem dX4_wipe_8 : decode cX4_wipe 8 = .ok (.aload_n 0, 1) := by decide +kernel
theorem dX4_wipe_9 : decode cX4_wipe 9 = .ok (.getfield 25, 3) := by decide +kernel
theorem dX4_wipe_12 : decode cX4_wipe 12 = .ok (.iconst 0, 1) := by decide +kernel
theorem dX4_wipe_13 : decode cX4_wipe 13 = .ok (.putfield 172, 3) := by decide +kernel
theorem dX4_wipe_16 : decode cX4_wipe 16 = .ok (.iload_n 1, 1) := by decide +kernel
theorem dX4_wipe_17 : decode cX4_wipe 17 = .ok (.ireturn, 1) := by decide +kernel
theorem dX4_town_0 : decode cX4_town 0 = .ok (.aload_n 0, 1) := by decide +kernel
theorem dX4_town_1 : decode cX4_town 1 = .ok (.getfield 19, 3) := by decide +kernel
theorem dX4_town_4 : decode cX4_town 4 = .ok (.aload_n 0, 1) := by decide +kernel
theorem dX4_town_5 : decode cX4_town 5 = .ok (.getfield 10, 3) := by decide +kernel
theorem dX4_town_8 : decode cX4_town 8 = .ok (.invokevirtual 152, 3) := by decide +kernel
theorem dX4_town_11 : decode cX4_town 11 = .ok (.aload_n 0, 1) := by decide +kernel
theorem dX4_town_12 : decode cX4_town 12 = .ok (.getfield 25, 3) := by decide +kernel
theorem dX4_town_15 : decode cX4_town 15 = .ok (.aload_n 0, 1) := by decide +kernel
theorem dX4_town_16 : decode cX4_town 16 = .ok (.getfield 19, 3) := by decide +kernel
theorem dX4_town_19 : decode cX4_town 19 = .ok (.invokevirtual 179, 3) := by decide +kernel
theorem dX4_town_22 : decode cX4_town 22 = .ok (.istore_n 1, 1) := by decide +kernel
theorem dX4_town_23 : decode cX4_town 23 = .ok (.aload_n 0, 1) := by decide +kernel
theorem dX4_town_24 : decode cX4_town 24 = .ok (.getfield 25, 3) := by decide +kernel
theorem dX4_town_27 : decode cX4_town 27 = .ok (.iconst 0, 1) := by decide +kernel
theorem dX4_town_28 : decode cX4_town 28 = .ok (.putfield 172, 3) := by decide +kernel
theorem dX4_town_31 : decode cX4_town 31 = .ok (.iload_n 1, 1) := by decide +kernel
theorem dX4_town_32 : decode cX4_town 32 = .ok (.ifCond .lt 14, 3) := by decide +kernel
theorem dX4_town_35 : decode cX4_town 35 = .ok (.aload_n 0, 1) := by decide +kernel
theorem dX4_town_36 : decode cX4_town 36 = .ok (.getfield 10, 3) := by decide +kernel
theorem dX4_town_39 : decode cX4_town 39 = .ok (.aload_n 0, 1) := by decide +kernel
theorem dX4_town_40 : decode cX4_town 40 = .ok (.getfield 19, 3) := by decide +kernel
theorem dX4_town_43 : decode cX4_town 43 = .ok (.invokevirtual 152, 3) := by decide +kernel
theorem dX4_town_46 : decode cX4_town 46 = .ok (.iload_n 1, 1) := by decide +kernel
theorem dX4_town_47 : decode cX4_town 47 = .ok (.ireturn, 1) := by decide +kernel
theorem dX4_sheet_0 : decode cX4_sheet 0 = .ok (.iload_n 1, 1) := by decide +kernel
theorem dX4_sheet_1 : decode cX4_sheet 1 = .ok (.iconst 0, 1) := by decide +kernel
theorem dX4_sheet_2 : decode cX4_sheet 2 = .ok (.iconst 3, 1) := by decide +kernel
theorem dX4_sheet_3 : decode cX4_sheet 3 = .ok (.invokestatic 48, 3) := by decide +kernel
theorem dX4_sheet_6 : decode cX4_sheet 6 = .ok (.ifCond .eq 25, 3) := by decide +kernel
theorem dX4_sheet_9 : decode cX4_sheet 9 = .ok (.iload_n 2, 1) := by decide +kernel
theorem dX4_sheet_10 : decode cX4_sheet 10 = .ok (.ifCond .eq 28, 3) := by decide +kernel
theorem dX4_sheet_13 : decode cX4_sheet 13 = .ok (.iload_n 2, 1) := by decide +kernel
theorem dX4_sheet_14 : decode cX4_sheet 14 = .ok (.bipush 8, 2) := by decide +kernel
theorem dX4_sheet_16 : decode cX4_sheet 16 = .ok (.if_icmp .eq 22, 3) := by decide +kernel
theorem dX4_sheet_19 : decode cX4_sheet 19 = .ok (.iload_n 2, 1) := by decide +kernel
theorem dX4_sheet_20 : decode cX4_sheet 20 = .ok (.bipush 16, 2) := by decide +kernel
theorem dX4_sheet_22 : decode cX4_sheet 22 = .ok (.if_icmp .eq 16, 3) := by decide +kernel
theorem dX4_sheet_25 : decode cX4_sheet 25 = .ok (.iload_n 2, 1) := by decide +kernel
theorem dX4_sheet_26 : decode cX4_sheet 26 = .ok (.bipush 64, 2) := by decide +kernel
theorem dX4_sheet_28 : decode cX4_sheet 28 = .ok (.if_icmp .eq 10, 3) := by decide +kernel
theorem dX4_sheet_31 : decode cX4_sheet 31 = .ok (.aload_n 0, 1) := by decide +kernel
theorem dX4_sheet_32 : decode cX4_sheet 32 = .ok (.ldc 52, 2) := by decide +kernel
theorem dX4_sheet_34 : decode cX4_sheet 34 = .ok (.invokevirtual 53, 3) := by decide +kernel
theorem dX4_sheet_37 : decode cX4_sheet 37 = .ok (.ireturn, 1) := by decide +kernel
theorem dX4_sheet_38 : decode cX4_sheet 38 = .ok (.iload_n 3, 1) := by decide +kernel
theorem dX4_sheet_39 : decode cX4_sheet 39 = .ok (.ifCond .ge 10, 3) := by decide +kernel
theorem dX4_sheet_42 : decode cX4_sheet 42 = .ok (.aload_n 0, 1) := by decide +kernel
theorem dX4_sheet_43 : decode cX4_sheet 43 = .ok (.ldc 182, 2) := by decide +kernel
theorem dX4_sheet_45 : decode cX4_sheet 45 = .ok (.invokevirtual 53, 3) := by decide +kernel
theorem dX4_sheet_48 : decode cX4_sheet 48 = .ok (.ireturn, 1) := by decide +kernel
theorem dX4_sheet_49 : decode cX4_sheet 49 = .ok (.iload_n 3, 1) := by decide +kernel
theorem dX4_sheet_50 : decode cX4_sheet 50 = .ok (.bipush 40, 2) := by decide +kernel
theorem dX4_sheet_52 : decode cX4_sheet 52 = .ok (.if_icmp .le 10, 3) := by decide +kernel
theorem dX4_sheet_55 : decode cX4_sheet 55 = .ok (.aload_n 0, 1) := by decide +kernel
theorem dX4_sheet_56 : decode cX4_sheet 56 = .ok (.ldc 52, 2) := by decide +kernel
theorem dX4_sheet_58 : decode cX4_sheet 58 = .ok (.invokevirtual 53, 3) := by decide +kernel
theorem dX4_sheet_61 : decode cX4_sheet 61 = .ok (.ireturn, 1) := by decide +kernel
theorem dX4_sheet_62 : decode cX4_sheet 62 = .ok (.aload_n 0, 1) := by decide +kernel
theorem dX4_sheet_63 : decode cX4_sheet 63 = .ok (.getfield 31, 3) := by decide +kernel
theorem dX4_sheet_66 : decode cX4_sheet 66 = .ok (.iload_n 1, 1) := by decide +kernel
theorem dX4_sheet_67 : decode cX4_sheet 67 = .ok (.aaload, 1) := by decide +kernel
theorem dX4_sheet_68 : decode cX4_sheet 68 = .ok (.iload_n 2, 1) := by decide +kernel
theorem dX4_sheet_69 : decode cX4_sheet 69 = .ok (.iload_n 2, 1) := by decide +kernel
theorem dX4_sheet_70 : decode cX4_sheet 70 = .ok (.ifCond .ne 7, 3) := by decide +kernel
theorem dX4_sheet_73 : decode cX4_sheet 73 = .ok (.iconst 0, 1) := by decide +kernel
theorem dX4_sheet_74 : decode cX4_sheet 74 = .ok (.goto 4, 3) := by decide +kernel
theorem dX4_sheet_77 : decode cX4_sheet 77 = .ok (.iload_n 3, 1) := by decide +kernel
theorem dX4_sheet_78 : decode cX4_sheet 78 = .ok (.invokevirtual 183, 3) := by decide +kernel
theorem dX4_sheet_81 : decode cX4_sheet 81 = .ok (.aload_n 0, 1) := by decide +kernel
theorem dX4_sheet_82 : decode cX4_sheet 82 = .ok (.getfield 31, 3) := by decide +kernel
theorem dX4_sheet_85 : decode cX4_sheet 85 = .ok (.iload_n 1, 1) := by decide +kernel
theorem dX4_sheet_86 : decode cX4_sheet 86 = .ok (.aaload, 1) := by decide +kernel
theorem dX4_sheet_87 : decode cX4_sheet 87 = .ok (.getfield 186, 3) := by decide +kernel
theorem dX4_sheet_90 : decode cX4_sheet 90 = .ok (.ireturn, 1) := by decide +kernel
theorem dX4_write_0 : decode cX4_write 0 = .ok (.aload_n 0, 1) := by decide +kernel
theorem dX4_write_1 : decode cX4_write 1 = .ok (.iload_n 1, 1) := by decide +kernel
theorem dX4_write_2 : decode cX4_write 2 = .ok (.invokevirtual 189, 3) := by decide +kernel
theorem dX4_write_5 : decode cX4_write 5 = .ok (.istore 5, 2) := by decide +kernel
theorem dX4_write_7 : decode cX4_write 7 = .ok (.iload 5, 2) := by decide +kernel
theorem dX4_write_9 : decode cX4_write 9 = .ok (.ifCond .eq 11, 3) := by decide +kernel
theorem dX4_write_12 : decode cX4_write 12 = .ok (.aload_n 0, 1) := by decide +kernel
theorem dX4_write_13 : decode cX4_write 13 = .ok (.iload 5, 2) := by decide +kernel
theorem dX4_write_15 : decode cX4_write 15 = .ok (.invokevirtual 53, 3) := by decide +kernel
theorem dX4_write_18 : decode cX4_write 18 = .ok (.i2l, 1) := by decide +kernel
theorem dX4_write_19 : decode cX4_write 19 = .ok (.lreturn, 1) := by decide +kernel
theorem dX4_write_20 : decode cX4_write 20 = .ok (.iload_n 2, 1) := by decide +kernel
theorem dX4_write_21 : decode cX4_write 21 = .ok (.ifCond .lt 16, 3) := by decide +kernel
theorem dX4_write_24 : decode cX4_write 24 = .ok (.iload_n 2, 1) := by decide +kernel
theorem dX4_write_25 : decode cX4_write 25 = .ok (.aload_n 0, 1) := by decide +kernel
theorem dX4_write_26 : decode cX4_write 26 = .ok (.getfield 31, 3) := by decide +kernel
theorem dX4_write_29 : decode cX4_write 29 = .ok (.iload_n 1, 1) := by decide +kernel
theorem dX4_write_30 : decode cX4_write 30 = .ok (.aaload, 1) := by decide +kernel
theorem dX4_write_31 : decode cX4_write 31 = .ok (.getfield 186, 3) := by decide +kernel
theorem dX4_write_34 : decode cX4_write 34 = .ok (.if_icmp .lt 11, 3) := by decide +kernel
theorem dX4_write_37 : decode cX4_write 37 = .ok (.aload_n 0, 1) := by decide +kernel
theorem dX4_write_38 : decode cX4_write 38 = .ok (.ldc 52, 2) := by decide +kernel
theorem dX4_write_40 : decode cX4_write 40 = .ok (.invokevirtual 53, 3) := by decide +kernel
theorem dX4_write_43 : decode cX4_write 43 = .ok (.i2l, 1) := by decide +kernel
theorem dX4_write_44 : decode cX4_write 44 = .ok (.lreturn, 1) := by decide +kernel
theorem dX4_write_45 : decode cX4_write 45 = .ok (.aload_n 0, 1) := by decide +kernel
theorem dX4_write_46 : decode cX4_write 46 = .ok (.getfield 31, 3) := by decide +kernel
theorem dX4_write_49 : decode cX4_write 49 = .ok (.iload_n 1, 1) := by decide +kernel
theorem dX4_write_50 : decode cX4_write 50 = .ok (.aaload, 1) := by decide +kernel
theorem dX4_write_51 : decode cX4_write 51 = .ok (.getfield 192, 3) := by decide +kernel
theorem dX4_write_54 : decode cX4_write 54 = .ok (.iload_n 2, 1) := by decide +kernel
theorem dX4_write_55 : decode cX4_write 55 = .ok (.laload, 1) := by decide +kernel
theorem dX4_write_56 : decode cX4_write 56 = .ok (.lstore 6, 2) := by decide +kernel
theorem dX4_write_58 : decode cX4_write 58 = .ok (.aload_n 0, 1) := by decide +kernel
theorem dX4_write_59 : decode cX4_write 59 = .ok (.getfield 31, 3) := by decide +kernel
theorem dX4_write_62 : decode cX4_write 62 = .ok (.iload_n 1, 1) := by decide +kernel
theorem dX4_write_63 : decode cX4_write 63 = .ok (.aaload, 1) := by decide +kernel
theorem dX4_write_64 : decode cX4_write 64 = .ok (.iload_n 2, 1) := by decide +kernel
theorem dX4_write_65 : decode cX4_write 65 = .ok (.lload_n 3, 1) := by decide +kernel
theorem dX4_write_66 : decode cX4_write 66 = .ok (.invokevirtual 196, 3) := by decide +kernel
theorem dX4_write_69 : decode cX4_write 69 = .ok (.lload 6, 2) := by decide +kernel
theorem dX4_write_71 : decode cX4_write 71 = .ok (.lreturn, 1) := by decide +kernel
theorem dX4_copy_0 : decode cX4_copy 0 = .ok (.iload_n 1, 1) := by decide +kernel
theorem dX4_copy_1 : decode cX4_copy 1 = .ok (.iconst 0, 1) := by decide +kernel
theorem dX4_copy_2 : decode cX4_copy 2 = .ok (.iconst 3, 1) := by decide +kernel
theorem dX4_copy_3 : decode cX4_copy 3 = .ok (.invokestatic 48, 3) := by decide +kernel
theorem dX4_copy_6 : decode cX4_copy 6 = .ok (.ifCond .eq 12, 3) := by decide +kernel
theorem dX4_copy_9 : decode cX4_copy 9 = .ok (.iload_n 3, 1) := by decide +kernel
theorem dX4_copy_10 : decode cX4_copy 10 = .ok (.iconst 0, 1) := by decide +kernel
theorem dX4_copy_11 : decode cX4_copy 11 = .ok (.iconst 3, 1) := by decide +kernel
theorem dX4_copy_12 : decode cX4_copy 12 = .ok (.invokestatic 48, 3) := by decide +kernel
theorem dX4_copy_15 : decode cX4_copy 15 = .ok (.ifCond .ne 10, 3) := by decide +kernel
theorem dX4_copy_18 : decode cX4_copy 18 = .ok (.aload_n 0, 1) := by decide +kernel
theorem dX4_copy_19 : decode cX4_copy 19 = .ok (.ldc 52, 2) := by decide +kernel
theorem dX4_copy_21 : decode cX4_copy 21 = .ok (.invokevirtual 53, 3) := by decide +kernel
theorem dX4_copy_24 : decode cX4_copy 24 = .ok (.ireturn, 1) := by decide +kernel
theorem dX4_copy_25 : decode cX4_copy 25 = .ok (.aload_n 0, 1) := by decide +kernel
theorem dX4_copy_26 : decode cX4_copy 26 = .ok (.getfield 31, 3) := by decide +kernel
theorem dX4_copy_29 : decode cX4_copy 29 = .ok (.iload_n 1, 1) := by decide +kernel
theorem dX4_copy_30 : decode cX4_copy 30 = .ok (.aaload, 1) := by decide +kernel
theorem dX4_copy_31 : decode cX4_copy 31 = .ok (.astore 6, 2) := by decide +kernel
theorem dX4_copy_33 : decode cX4_copy 33 = .ok (.aload_n 0, 1) := by decide +kernel
theorem dX4_copy_34 : decode cX4_copy 34 = .ok (.getfield 31, 3) := by decide +kernel
theorem dX4_copy_37 : decode cX4_copy 37 = .ok (.iload_n 3, 1) := by decide +kernel
theorem dX4_copy_38 : decode cX4_copy 38 = .ok (.aaload, 1) := by decide +kernel
theorem dX4_copy_39 : decode cX4_copy 39 = .ok (.astore 7, 2) := by decide +kernel
theorem dX4_copy_41 : decode cX4_copy 41 = .ok (.aload 6, 2) := by decide +kernel
theorem dX4_copy_43 : decode cX4_copy 43 = .ok (.getfield 200, 3) := by decide +kernel
theorem dX4_copy_46 : decode cX4_copy 46 = .ok (.ifCond .eq 11, 3) := by decide +kernel
theorem dX4_copy_49 : decode cX4_copy 49 = .ok (.aload 7, 2) := by decide +kernel
theorem dX4_copy_51 : decode cX4_copy 51 = .ok (.getfield 200, 3) := by decide +kernel
theorem dX4_copy_54 : decode cX4_copy 54 = .ok (.ifCond .ne 10, 3) := by decide +kernel
theorem dX4_copy_57 : decode cX4_copy 57 = .ok (.aload_n 0, 1) := by decide +kernel
theorem dX4_copy_58 : decode cX4_copy 58 = .ok (.ldc 203, 2) := by decide +kernel
theorem dX4_copy_60 : decode cX4_copy 60 = .ok (.invokevirtual 53, 3) := by decide +kernel
theorem dX4_copy_63 : decode cX4_copy 63 = .ok (.ireturn, 1) := by decide +kernel
theorem dX4_copy_64 : decode cX4_copy 64 = .ok (.aload 6, 2) := by decide +kernel
theorem dX4_copy_66 : decode cX4_copy 66 = .ok (.getfield 200, 3) := by decide +kernel
theorem dX4_copy_69 : decode cX4_copy 69 = .ok (.aload 7, 2) := by decide +kernel
theorem dX4_copy_71 : decode cX4_copy 71 = .ok (.getfield 200, 3) := by decide +kernel
theorem dX4_copy_74 : decode cX4_copy 74 = .ok (.if_icmp .eq 10, 3) := by decide +kernel
theorem dX4_copy_77 : decode cX4_copy 77 = .ok (.aload_n 0, 1) := by decide +kernel
theorem dX4_copy_78 : decode cX4_copy 78 = .ok (.ldc 138, 2) := by decide +kernel
theorem dX4_copy_80 : decode cX4_copy 80 = .ok (.invokevirtual 53, 3) := by decide +kernel
theorem dX4_copy_83 : decode cX4_copy 83 = .ok (.ireturn, 1) := by decide +kernel
theorem dX4_copy_84 : decode cX4_copy 84 = .ok (.aload 6, 2) := by decide +kernel
theorem dX4_copy_86 : decode cX4_copy 86 = .ok (.iload_n 2, 1) := by decide +kernel
theorem dX4_copy_87 : decode cX4_copy 87 = .ok (.iload 5, 2) := by decide +kernel
theorem dX4_copy_89 : decode cX4_copy 89 = .ok (.invokevirtual 204, 3) := by decide +kernel
theorem dX4_copy_92 : decode cX4_copy 92 = .ok (.ifCond .eq 15, 3) := by decide +kernel
theorem dX4_copy_95 : decode cX4_copy 95 = .ok (.aload 7, 2) := by decide +kernel
theorem dX4_copy_97 : decode cX4_copy 97 = .ok (.iload 4, 2) := by decide +kernel
theorem dX4_copy_99 : decode cX4_copy 99 = .ok (.iload 5, 2) := by decide +kernel
theorem dX4_copy_101 : decode cX4_copy 101 = .ok (.invokevirtual 204, 3) := by decide +kernel
theorem dX4_copy_104 : decode cX4_copy 104 = .ok (.ifCond .ne 10, 3) := by decide +kernel
theorem dX4_copy_107 : decode cX4_copy 107 = .ok (.aload_n 0, 1) := by decide +kernel
theorem dX4_copy_108 : decode cX4_copy 108 = .ok (.ldc 52, 2) := by decide +kernel
theorem dX4_copy_110 : decode cX4_copy 110 = .ok (.invokevirtual 53, 3) := by decide +kernel
theorem dX4_copy_113 : decode cX4_copy 113 = .ok (.ireturn, 1) := by decide +kernel
theorem dX4_copy_114 : decode cX4_copy 114 = .ok (.aload 6, 2) := by decide +kernel
theorem dX4_copy_116 : decode cX4_copy 116 = .ok (.getfield 192, 3) := by decide +kernel
theorem dX4_copy_119 : decode cX4_copy 119 = .ok (.iload_n 2, 1) := by decide +kernel
theorem dX4_copy_120 : decode cX4_copy 120 = .ok (.aload 7, 2) := by decide +kernel
theorem dX4_copy_122 : decode cX4_copy 122 = .ok (.getfield 192, 3) := by decide +kernel
theorem dX4_copy_125 : decode cX4_copy 125 = .ok (.iload 4, 2) := by decide +kernel
theorem dX4_copy_127 : decode cX4_copy 127 = .ok (.iload 5, 2) := by decide +kernel
theorem dX4_copy_129 : decode cX4_copy 129 = .ok (.invokestatic 207, 3) := by decide +kernel
theorem dX4_copy_132 : decode cX4_copy 132 = .ok (.iload 5, 2) := by decide +kernel
theorem dX4_copy_134 : decode cX4_copy 134 = .ok (.ireturn, 1) := by decide +kernel
theorem dX4_lays_0 : decode cX4_lays 0 = .ok (.aload_n 0, 1) := by decide +kernel
theorem dX4_lays_1 : decode cX4_lays 1 = .ok (.iload_n 1, 1) := by decide +kernel
theorem dX4_lays_2 : decode cX4_lays 2 = .ok (.invokevirtual 189, 3) := by decide +kernel
theorem dX4_lays_5 : decode cX4_lays 5 = .ok (.istore_n 3, 1) := by decide +kernel
theorem dX4_lays_6 : decode cX4_lays 6 = .ok (.iload_n 3, 1) := by decide +kernel
theorem dX4_lays_7 : decode cX4_lays 7 = .ok (.ifCond .eq 9, 3) := by decide +kernel
theorem dX4_lays_10 : decode cX4_lays 10 = .ok (.aload_n 0, 1) := by decide +kernel
theorem dX4_lays_11 : decode cX4_lays 11 = .ok (.iload_n 3, 1) := by decide +kernel
theorem dX4_lays_12 : decode cX4_lays 12 = .ok (.invokevirtual 53, 3) := by decide +kernel
theorem dX4_lays_15 : decode cX4_lays 15 = .ok (.ireturn, 1) := by decide +kernel
theorem dX4_lays_16 : decode cX4_lays 16 = .ok (.iload_n 2, 1) := by decide +kernel
theorem dX4_lays_17 : decode cX4_lays 17 = .ok (.invokestatic 75, 3) := by decide +kernel
theorem dX4_lays_20 : decode cX4_lays 20 = .ok (.ifCond .ne 10, 3) := by decide +kernel
theorem dX4_lays_23 : decode cX4_lays 23 = .ok (.aload_n 0, 1) := by decide +kernel
theorem dX4_lays_24 : decode cX4_lays 24 = .ok (.ldc 52, 2) := by decide +kernel
theorem dX4_lays_26 : decode cX4_lays 26 = .ok (.invokevirtual 53, 3) := by decide +kernel
theorem dX4_lays_29 : decode cX4_lays 29 = .ok (.ireturn, 1) := by decide +kernel
theorem dX4_lays_30 : decode cX4_lays 30 = .ok (.iconst 0, 1) := by decide +kernel
theorem dX4_lays_31 : decode cX4_lays 31 = .ok (.istore 4, 2) := by decide +kernel
theorem dX4_lays_33 : decode cX4_lays 33 = .ok (.aload_n 0, 1) := by decide +kernel
theorem dX4_lays_34 : decode cX4_lays 34 = .ok (.getfield 31, 3) := by decide +kernel
theorem dX4_lays_37 : decode cX4_lays 37 = .ok (.iload_n 1, 1) := by decide +kernel
theorem dX4_lays_38 : decode cX4_lays 38 = .ok (.aaload, 1) := by decide +kernel
theorem dX4_lays_39 : decode cX4_lays 39 = .ok (.getfield 186, 3) := by decide +kernel
theorem dX4_lays_42 : decode cX4_lays 42 = .ok (.bipush 20, 2) := by decide +kernel
theorem dX4_lays_44 : decode cX4_lays 44 = .ok (.invokestatic 213, 3) := by decide +kernel
theorem dX4_lays_47 : decode cX4_lays 47 = .ok (.istore 5, 2) := by decide +kernel
theorem dX4_lays_49 : decode cX4_lays 49 = .ok (.iconst 0, 1) := by decide +kernel
theorem dX4_lays_50 : decode cX4_lays 50 = .ok (.istore 6, 2) := by decide +kernel
theorem dX4_lays_52 : decode cX4_lays 52 = .ok (.iload 6, 2) := by decide +kernel
theorem dX4_lays_54 : decode cX4_lays 54 = .ok (.iload 5, 2) := by decide +kernel
theorem dX4_lays_56 : decode cX4_lays 56 = .ok (.if_icmp .ge 55, 3) := by decide +kernel
theorem dX4_lays_59 : decode cX4_lays 59 = .ok (.aload_n 0, 1) := by decide +kernel
theorem dX4_lays_60 : decode cX4_lays 60 = .ok (.getfield 31, 3) := by decide +kernel
theorem dX4_lays_63 : decode cX4_lays 63 = .ok (.iload_n 1, 1) := by decide +kernel
theorem dX4_lays_64 : decode cX4_lays 64 = .ok (.aaload, 1) := by decide +kernel
theorem dX4_lays_65 : decode cX4_lays 65 = .ok (.getfield 192, 3) := by decide +kernel
theorem dX4_lays_68 : decode cX4_lays 68 = .ok (.iload 6, 2) := by decide +kernel
theorem dX4_lays_70 : decode cX4_lays 70 = .ok (.laload, 1) := by decide +kernel
theorem dX4_lays_71 : decode cX4_lays 71 = .ok (.lstore 7, 2) := by decide +kernel
theorem dX4_lays_73 : decode cX4_lays 73 = .ok (.lload 7, 2) := by decide +kernel
theorem dX4_lays_75 : decode cX4_lays 75 = .ok (.lconst 0, 1) := by decide +kernel
theorem dX4_lays_76 : decode cX4_lays 76 = .ok (.lcmp, 1) := by decide +kernel
theorem dX4_lays_77 : decode cX4_lays 77 = .ok (.ifCond .lt 28, 3) := by decide +kernel
theorem dX4_lays_80 : decode cX4_lays 80 = .ok (.lload 7, 2) := by decide +kernel
theorem dX4_lays_82 : decode cX4_lays 82 = .ok (.ldc2_w 218, 3) := by decide +kernel
theorem dX4_lays_85 : decode cX4_lays 85 = .ok (.lcmp, 1) := by decide +kernel
theorem dX4_lays_86 : decode cX4_lays 86 = .ok (.ifCond .gt 19, 3) := by decide +kernel
theorem dX4_lays_89 : decode cX4_lays 89 = .ok (.aload_n 0, 1) := by decide +kernel
theorem dX4_lays_90 : decode cX4_lays 90 = .ok (.getfield 10, 3) := by decide +kernel
theorem dX4_lays_93 : decode cX4_lays 93 = .ok (.iload_n 2, 1) := by decide +kernel
theorem dX4_lays_94 : decode cX4_lays 94 = .ok (.iload 6, 2) := by decide +kernel
theorem dX4_lays_96 : decode cX4_lays 96 = .ok (.lload 7, 2) := by decide +kernel
theorem dX4_lays_98 : decode cX4_lays 98 = .ok (.l2i, 1) := by decide +kernel
theorem dX4_lays_99 : decode cX4_lays 99 = .ok (.invokevirtual 64, 3) := by decide +kernel
theorem dX4_lays_102 : decode cX4_lays 102 = .ok (.iinc 4 1, 3) := by decide +kernel
theorem dX4_lays_105 : decode cX4_lays 105 = .ok (.iinc 6 1, 3) := by decide +kernel
theorem dX4_lays_108 : decode cX4_lays 108 = .ok (.goto (-56), 3) := by decide +kernel
theorem dX4_lays_111 : decode cX4_lays 111 = .ok (.iload 4, 2) := by decide +kernel
theorem dX4_lays_113 : decode cX4_lays 113 = .ok (.ireturn, 1) := by decide +kernel
theorem dX4_book_0 : decode cX4_book 0 = .ok (.aload_n 0, 1) := by decide +kernel
theorem dX4_book_1 : decode cX4_book 1 = .ok (.iload_n 1, 1) := by decide +kernel
theorem dX4_book_2 : decode cX4_book 2 = .ok (.invokevirtual 189, 3) := by decide +kernel
theorem dX4_book_5 : decode cX4_book 5 = .ok (.istore 4, 2) := by decide +kernel
theorem dX4_book_7 : decode cX4_book 7 = .ok (.iload 4, 2) := by decide +kernel
theorem dX4_book_9 : decode cX4_book 9 = .ok (.ifCond .eq 10, 3) := by decide +kernel
theorem dX4_book_12 : decode cX4_book 12 = .ok (.aload_n 0, 1) := by decide +kernel
theorem dX4_book_13 : decode cX4_book 13 = .ok (.iload 4, 2) := by decide +kernel
theorem dX4_book_15 : decode cX4_book 15 = .ok (.invokevirtual 53, 3) := by decide +kernel
theorem dX4_book_18 : decode cX4_book 18 = .ok (.ireturn, 1) := by decide +kernel
theorem dX4_book_19 : decode cX4_book 19 = .ok (.aload_n 0, 1) := by decide +kernel
theorem dX4_book_20 : decode cX4_book 20 = .ok (.getfield 10, 3) := by decide +kernel
theorem dX4_book_23 : decode cX4_book 23 = .ok (.iload_n 2, 1) := by decide +kernel
theorem dX4_book_24 : decode cX4_book 24 = .ok (.invokevirtual 111, 3) := by decide +kernel
theorem dX4_book_27 : decode cX4_book 27 = .ok (.ifCond .eq 10, 3) := by decide +kernel
theorem dX4_book_30 : decode cX4_book 30 = .ok (.iload_n 3, 1) := by decide +kernel
theorem dX4_book_31 : decode cX4_book 31 = .ok (.invokestatic 75, 3) := by decide +kernel
theorem dX4_book_34 : decode cX4_book 34 = .ok (.ifCond .ne 10, 3) := by decide +kernel
theorem dX4_book_37 : decode cX4_book 37 = .ok (.aload_n 0, 1) := by decide +kernel
theorem dX4_book_38 : decode cX4_book 38 = .ok (.ldc 52, 2) := by decide +kernel
theorem dX4_book_40 : decode cX4_book 40 = .ok (.invokevirtual 53, 3) := by decide +kernel
theorem dX4_book_43 : decode cX4_book 43 = .ok (.ireturn, 1) := by decide +kernel
theorem dX4_book_44 : decode cX4_book 44 = .ok (.aload_n 0, 1) := by decide +kernel
theorem dX4_book_45 : decode cX4_book 45 = .ok (.getfield 31, 3) := by decide +kernel
theorem dX4_book_48 : decode cX4_book 48 = .ok (.iload_n 1, 1) := by decide +kernel
theorem dX4_book_49 : decode cX4_book 49 = .ok (.aaload, 1) := by decide +kernel
theorem dX4_book_50 : decode cX4_book 50 = .ok (.getfield 186, 3) := by decide +kernel
theorem dX4_book_53 : decode cX4_book 53 = .ok (.bipush 20, 2) := by decide +kernel
theorem dX4_book_55 : decode cX4_book 55 = .ok (.invokestatic 213, 3) := by decide +kernel
theorem dX4_book_58 : decode cX4_book 58 = .ok (.istore 5, 2) := by decide +kernel
theorem dX4_book_60 : decode cX4_book 60 = .ok (.iconst 0, 1) := by decide +kernel
theorem dX4_book_61 : decode cX4_book 61 = .ok (.istore 6, 2) := by decide +kernel
theorem dX4_book_63 : decode cX4_book 63 = .ok (.iload 6, 2) := by decide +kernel
theorem dX4_book_65 : decode cX4_book 65 = .ok (.iload 5, 2) := by decide +kernel
theorem dX4_book_67 : decode cX4_book 67 = .ok (.if_icmp .ge 49, 3) := by decide +kernel
theorem dX4_book_70 : decode cX4_book 70 = .ok (.aload_n 0, 1) := by decide +kernel
theorem dX4_book_71 : decode cX4_book 71 = .ok (.getfield 31, 3) := by decide +kernel
theorem dX4_book_74 : decode cX4_book 74 = .ok (.iload_n 1, 1) := by decide +kernel
theorem dX4_book_75 : decode cX4_book 75 = .ok (.aaload, 1) := by decide +kernel
theorem dX4_book_76 : decode cX4_book 76 = .ok (.iload 6, 2) := by decide +kernel
theorem dX4_book_78 : decode cX4_book 78 = .ok (.aload_n 0, 1) := by decide +kernel
theorem dX4_book_79 : decode cX4_book 79 = .ok (.getfield 10, 3) := by decide +kernel
theorem dX4_book_82 : decode cX4_book 82 = .ok (.aload_n 0, 1) := by decide +kernel
theorem dX4_book_83 : decode cX4_book 83 = .ok (.getfield 10, 3) := by decide +kernel
theorem dX4_book_86 : decode cX4_book 86 = .ok (.getfield 114, 3) := by decide +kernel
theorem dX4_book_89 : decode cX4_book 89 = .ok (.iload_n 2, 1) := by decide +kernel
theorem dX4_book_90 : decode cX4_book 90 = .ok (.iaload, 1) := by decide +kernel
theorem dX4_book_91 : decode cX4_book 91 = .ok (.aload_n 0, 1) := by decide +kernel
theorem dX4_book_92 : decode cX4_book 92 = .ok (.getfield 10, 3) := by decide +kernel
theorem dX4_book_95 : decode cX4_book 95 = .ok (.getfield 117, 3) := by decide +kernel
theorem dX4_book_98 : decode cX4_book 98 = .ok (.iload_n 2, 1) := by decide +kernel
theorem dX4_book_99 : decode cX4_book 99 = .ok (.iaload, 1) := by decide +kernel
theorem dX4_book_100 : decode cX4_book 100 = .ok (.iload_n 3, 1) := by decide +kernel
theorem dX4_book_101 : decode cX4_book 101 = .ok (.iload 6, 2) := by decide +kernel
theorem dX4_book_103 : decode cX4_book 103 = .ok (.invokevirtual 143, 3) := by decide +kernel
theorem dX4_book_106 : decode cX4_book 106 = .ok (.i2l, 1) := by decide +kernel
theorem dX4_book_107 : decode cX4_book 107 = .ok (.invokevirtual 196, 3) := by decide +kernel
theorem dX4_book_110 : decode cX4_book 110 = .ok (.iinc 6 1, 3) := by decide +kernel
theorem dX4_book_113 : decode cX4_book 113 = .ok (.goto (-50), 3) := by decide +kernel
theorem dX4_book_116 : decode cX4_book 116 = .ok (.iload 5, 2) := by decide +kernel
theorem dX4_book_118 : decode cX4_book 118 = .ok (.ireturn, 1) := by decide +kernel
theorem dX4_read_0 : decode cX4_read 0 = .ok (.aload_n 0, 1) := by decide +kernel
theorem dX4_read_1 : decode cX4_read 1 = .ok (.iload_n 1, 1) := by decide +kernel
theorem dX4_read_2 : decode cX4_read 2 = .ok (.invokevirtual 189, 3) := by decide +kernel
theorem dX4_read_5 : decode cX4_read 5 = .ok (.istore 4, 2) := by decide +kernel
theorem dX4_read_7 : decode cX4_read 7 = .ok (.iload 4, 2) := by decide +kernel
theorem dX4_read_9 : decode cX4_read 9 = .ok (.ifCond .eq 10, 3) := by decide +kernel
theorem dX4_read_12 : decode cX4_read 12 = .ok (.aload_n 0, 1) := by decide +kernel
theorem dX4_read_13 : decode cX4_read 13 = .ok (.iload 4, 2) := by decide +kernel
theorem dX4_read_15 : decode cX4_read 15 = .ok (.invokevirtual 53, 3) := by decide +kernel
theorem dX4_read_18 : decode cX4_read 18 = .ok (.ireturn, 1) := by decide +kernel
theorem dX4_read_19 : decode cX4_read 19 = .ok (.aload_n 0, 1) := by decide +kernel
theorem dX4_read_20 : decode cX4_read 20 = .ok (.getfield 10, 3) := by decide +kernel
theorem dX4_read_23 : decode cX4_read 23 = .ok (.iload_n 2, 1) := by decide +kernel
theorem dX4_read_24 : decode cX4_read 24 = .ok (.invokevirtual 111, 3) := by decide +kernel
theorem dX4_read_27 : decode cX4_read 27 = .ok (.ifCond .eq 10, 3) := by decide +kernel
theorem dX4_read_30 : decode cX4_read 30 = .ok (.iload_n 3, 1) := by decide +kernel
theorem dX4_read_31 : decode cX4_read 31 = .ok (.invokestatic 75, 3) := by decide +kernel
theorem dX4_read_34 : decode cX4_read 34 = .ok (.ifCond .ne 10, 3) := by decide +kernel
theorem dX4_read_37 : decode cX4_read 37 = .ok (.aload_n 0, 1) := by decide +kernel
theorem dX4_read_38 : decode cX4_read 38 = .ok (.ldc 52, 2) := by decide +kernel
theorem dX4_read_40 : decode cX4_read 40 = .ok (.invokevirtual 53, 3) := by decide +kernel
theorem dX4_read_43 : decode cX4_read 43 = .ok (.ireturn, 1) := by decide +kernel
theorem dX4_read_44 : decode cX4_read 44 = .ok (.aload_n 0, 1) := by decide +kernel
theorem dX4_read_45 : decode cX4_read 45 = .ok (.getfield 31, 3) := by decide +kernel
theorem dX4_read_48 : decode cX4_read 48 = .ok (.iload_n 1, 1) := by decide +kernel
theorem dX4_read_49 : decode cX4_read 49 = .ok (.aaload, 1) := by decide +kernel
theorem dX4_read_50 : decode cX4_read 50 = .ok (.getfield 186, 3) := by decide +kernel
theorem dX4_read_53 : decode cX4_read 53 = .ok (.bipush 20, 2) := by decide +kernel
theorem dX4_read_55 : decode cX4_read 55 = .ok (.if_icmp .le 10, 3) := by decide +kernel
theorem dX4_read_58 : decode cX4_read 58 = .ok (.aload_n 0, 1) := by decide +kernel
theorem dX4_read_59 : decode cX4_read 59 = .ok (.ldc 182, 2) := by decide +kernel
theorem dX4_read_61 : decode cX4_read 61 = .ok (.invokevirtual 53, 3) := by decide +kernel
theorem dX4_read_64 : decode cX4_read 64 = .ok (.ireturn, 1) := by decide +kernel
theorem dX4_read_65 : decode cX4_read 65 = .ok (.iconst 0, 1) := by decide +kernel
theorem dX4_read_66 : decode cX4_read 66 = .ok (.istore 5, 2) := by decide +kernel
theorem dX4_read_68 : decode cX4_read 68 = .ok (.iconst 0, 1) := by decide +kernel
theorem dX4_read_69 : decode cX4_read 69 = .ok (.istore 6, 2) := by decide +kernel
theorem dX4_read_71 : decode cX4_read 71 = .ok (.iload 6, 2) := by decide +kernel
theorem dX4_read_73 : decode cX4_read 73 = .ok (.bipush 6, 2) := by decide +kernel
theorem dX4_read_75 : decode cX4_read 75 = .ok (.if_icmp .ge 50, 3) := by decide +kernel
theorem dX4_read_78 : decode cX4_read 78 = .ok (.bipush 10, 2) := by decide +kernel
theorem dX4_read_80 : decode cX4_read 80 = .ok (.istore 7, 2) := by decide +kernel
theorem dX4_read_82 : decode cX4_read 82 = .ok (.iload 7, 2) := by decide +kernel
theorem dX4_read_84 : decode cX4_read 84 = .ok (.bipush 80, 2) := by decide +kernel
theorem dX4_read_86 : decode cX4_read 86 = .ok (.if_icmp .gt 33, 3) := by decide +kernel
theorem dX4_read_89 : decode cX4_read 89 = .ok (.aload_n 0, 1) := by decide +kernel
theorem dX4_read_90 : decode cX4_read 90 = .ok (.getfield 10, 3) := by decide +kernel
theorem dX4_read_93 : decode cX4_read 93 = .ok (.aload_n 0, 1) := by decide +kernel
theorem dX4_read_94 : decode cX4_read 94 = .ok (.getfield 31, 3) := by decide +kernel
theorem dX4_read_97 : decode cX4_read 97 = .ok (.iload_n 1, 1) := by decide +kernel
theorem dX4_read_98 : decode cX4_read 98 = .ok (.aaload, 1) := by decide +kernel
theorem dX4_read_99 : decode cX4_read 99 = .ok (.iload 6, 2) := by decide +kernel
theorem dX4_read_101 : decode cX4_read 101 = .ok (.iload 7, 2) := by decide +kernel
theorem dX4_read_103 : decode cX4_read 103 = .ok (.iload_n 3, 1) := by decide +kernel
theorem dX4_read_104 : decode cX4_read 104 = .ok (.invokevirtual 220, 3) := by decide +kernel
theorem dX4_read_107 : decode cX4_read 107 = .ok (.ifCond .eq 6, 3) := by decide +kernel
theorem dX4_read_110 : decode cX4_read 110 = .ok (.iinc 5 1, 3) := by decide +kernel
theorem dX4_read_113 : decode cX4_read 113 = .ok (.iinc 7 1, 3) := by decide +kernel
theorem dX4_read_116 : decode cX4_read 116 = .ok (.goto (-34), 3) := by decide +kernel
theorem dX4_read_119 : decode cX4_read 119 = .ok (.iinc 6 1, 3) := by decide +kernel
theorem dX4_read_122 : decode cX4_read 122 = .ok (.goto (-51), 3) := by decide +kernel
theorem dX4_read_125 : decode cX4_read 125 = .ok (.iload 5, 2) := by decide +kernel
theorem dX4_read_127 : decode cX4_read 127 = .ok (.ireturn, 1) := by decide +kernel
theorem dX4_image_0 : decode cX4_image 0 = .ok (.aload_n 0, 1) := by decide +kernel
theorem dX4_image_1 : decode cX4_image 1 = .ok (.getfield 16, 3) := by decide +kernel
theorem dX4_image_4 : decode cX4_image 4 = .ok (.aload_n 0, 1) := by decide +kernel
theorem dX4_image_5 : decode cX4_image 5 = .ok (.getfield 10, 3) := by decide +kernel
theorem dX4_image_8 : decode cX4_image 8 = .ok (.invokevirtual 152, 3) := by decide +kernel
theorem dX4_image_11 : decode cX4_image 11 = .ok (.aload_n 0, 1) := by decide +kernel
theorem dX4_image_12 : decode cX4_image 12 = .ok (.iconst 1, 1) := by decide +kernel
theorem dX4_image_13 : decode cX4_image 13 = .ok (.putfield 40, 3) := by decide +kernel
theorem dX4_image_16 : decode cX4_image 16 = .ok (.iconst 1, 1) := by decide +kernel
theorem dX4_image_17 : decode cX4_image 17 = .ok (.ireturn, 1) := by decide +kernel
theorem dX4_undo_0 : decode cX4_undo 0 = .ok (.aload_n 0, 1) := by decide +kernel
theorem dX4_undo_1 : decode cX4_undo 1 = .ok (.getfield 40, 3) := by decide +kernel
theorem dX4_undo_4 : decode cX4_undo 4 = .ok (.ifCond .ne 10, 3) := by decide +kernel
theorem dX4_undo_7 : decode cX4_undo 7 = .ok (.aload_n 0, 1) := by decide +kernel
theorem dX4_undo_8 : decode cX4_undo 8 = .ok (.ldc 160, 2) := by decide +kernel
theorem dX4_undo_10 : decode cX4_undo 10 = .ok (.invokevirtual 53, 3) := by decide +kernel
theorem dX4_undo_13 : decode cX4_undo 13 = .ok (.ireturn, 1) := by decide +kernel
theorem dX4_undo_14 : decode cX4_undo 14 = .ok (.aload_n 0, 1) := by decide +kernel
theorem dX4_undo_15 : decode cX4_undo 15 = .ok (.getfield 10, 3) := by decide +kernel
theorem dX4_undo_18 : decode cX4_undo 18 = .ok (.aload_n 0, 1) := by decide +kernel
theorem dX4_undo_19 : decode cX4_undo 19 = .ok (.getfield 16, 3) := by decide +kernel
theorem dX4_undo_22 : decode cX4_undo 22 = .ok (.invokevirtual 152, 3) := by decide +kernel
theorem dX4_undo_25 : decode cX4_undo 25 = .ok (.aload_n 0, 1) := by decide +kernel
theorem dX4_undo_26 : decode cX4_undo 26 = .ok (.getfield 10, 3) := by decide +kernel
theorem dX4_undo_29 : decode cX4_undo 29 = .ok (.getfield 104, 3) := by decide +kernel
theorem dX4_undo_32 : decode cX4_undo 32 = .ok (.ireturn, 1) := by decide +kernel
theorem dX4_tear_0 : decode cX4_tear 0 = .ok (.aload_n 0, 1) := by decide +kernel
theorem dX4_tear_1 : decode cX4_tear 1 = .ok (.getfield 40, 3) := by decide +kernel
theorem dX4_tear_4 : decode cX4_tear 4 = .ok (.ifCond .eq 7, 3) := by decide +kernel
theorem dX4_tear_7 : decode cX4_tear 7 = .ok (.iconst 1, 1) := by decide +kernel
theorem dX4_tear_8 : decode cX4_tear 8 = .ok (.goto 4, 3) := by decide +kernel
theorem dX4_tear_11 : decode cX4_tear 11 = .ok (.iconst 0, 1) := by decide +kernel
theorem dX4_tear_12 : decode cX4_tear 12 = .ok (.istore_n 1, 1) := by decide +kernel
theorem dX4_tear_13 : decode cX4_tear 13 = .ok (.aload_n 0, 1) := by decide +kernel
theorem dX4_tear_14 : decode cX4_tear 14 = .ok (.iconst 0, 1) := by decide +kernel
theorem dX4_tear_15 : decode cX4_tear 15 = .ok (.putfield 40, 3) := by decide +kernel
theorem dX4_tear_18 : decode cX4_tear 18 = .ok (.iload_n 1, 1) := by decide +kernel
theorem dX4_tear_19 : decode cX4_tear 19 = .ok (.ireturn, 1) := by decide +kernel
theorem dX4_count_0 : decode cX4_count 0 = .ok (.iload_n 1, 1) := by decide +kernel
theorem dX4_count_1 : decode cX4_count 1 = .ok (.tableswitch 63 0 3 #[31, 39, 47, 55], 31) := by decide +kernel
theorem dX4_count_32 : decode cX4_count 32 = .ok (.aload_n 0, 1) := by decide +kernel
theorem dX4_count_33 : decode cX4_count 33 = .ok (.getfield 10, 3) := by decide +kernel
theorem dX4_count_36 : decode cX4_count 36 = .ok (.getfield 104, 3) := by decide +kernel
theorem dX4_count_39 : decode cX4_count 39 = .ok (.ireturn, 1) := by decide +kernel
theorem dX4_count_40 : decode cX4_count 40 = .ok (.aload_n 0, 1) := by decide +kernel
theorem dX4_count_41 : decode cX4_count 41 = .ok (.getfield 25, 3) := by decide +kernel
theorem dX4_count_44 : decode cX4_count 44 = .ok (.getfield 172, 3) := by decide +kernel
theorem dX4_count_47 : decode cX4_count 47 = .ok (.ireturn, 1) := by decide +kernel
theorem dX4_count_48 : decode cX4_count 48 = .ok (.aload_n 0, 1) := by decide +kernel
theorem dX4_count_49 : decode cX4_count 49 = .ok (.getfield 10, 3) := by decide +kernel
theorem dX4_count_52 : decode cX4_count 52 = .ok (.invokevirtual 224, 3) := by decide +kernel
theorem dX4_count_55 : decode cX4_count 55 = .ok (.ireturn, 1) := by decide +kernel
theorem dX4_count_56 : decode cX4_count 56 = .ok (.aload_n 0, 1) := by decide +kernel
theorem dX4_count_57 : decode cX4_count 57 = .ok (.getfield 10, 3) := by decide +kernel
theorem dX4_count_60 : decode cX4_count 60 = .ok (.invokevirtual 227, 3) := by decide +kernel
theorem dX4_count_63 : decode cX4_count 63 = .ok (.ireturn, 1) := by decide +kernel
theorem dX4_count_64 : decode cX4_count 64 = .ok (.aload_n 0, 1) := by decide +kernel
theorem dX4_count_65 : decode cX4_count 65 = .ok (.ldc 52, 2) := by decide +kernel
theorem dX4_count_67 : decode cX4_count 67 = .ok (.invokevirtual 53, 3) := by decide +kernel
theorem dX4_count_70 : decode cX4_count 70 = .ok (.ireturn, 1) := by decide +kernel
theorem dX4_status_0 : decode cX4_status 0 = .ok (.iload_n 1, 1) := by decide +kernel
theorem dX4_status_1 : decode cX4_status 1 = .ok (.iconst (-1), 1) := by decide +kernel
theorem dX4_status_2 : decode cX4_status 2 = .ok (.bipush 6, 2) := by decide +kernel
theorem dX4_status_4 : decode cX4_status 4 = .ok (.invokestatic 48, 3) := by decide +kernel
theorem dX4_status_7 : decode cX4_status 7 = .ok (.ifCond .ne 10, 3) := by decide +kernel
theorem dX4_status_10 : decode cX4_status 10 = .ok (.aload_n 0, 1) := by decide +kernel
theorem dX4_status_11 : decode cX4_status 11 = .ok (.ldc 52, 2) := by decide +kernel
theorem dX4_status_13 : decode cX4_status 13 = .ok (.invokevirtual 53, 3) := by decide +kernel
theorem dX4_status_16 : decode cX4_status 16 = .ok (.ireturn, 1) := by decide +kernel
theorem dX4_status_17 : decode cX4_status 17 = .ok (.iload_n 1, 1) := by decide +kernel
theorem dX4_status_18 : decode cX4_status 18 = .ok (.ifCond .lt 10, 3) := by decide +kernel
theorem dX4_status_21 : decode cX4_status 21 = .ok (.aload_n 0, 1) := by decide +kernel
theorem dX4_status_22 : decode cX4_status 22 = .ok (.getfield 36, 3) := by decide +kernel
theorem dX4_status_25 : decode cX4_status 25 = .ok (.iload_n 1, 1) := by decide +kernel
theorem dX4_status_26 : decode cX4_status 26 = .ok (.iaload, 1) := by decide +kernel
theorem dX4_status_27 : decode cX4_status 27 = .ok (.ireturn, 1) := by decide +kernel
theorem dX4_status_28 : decode cX4_status 28 = .ok (.iconst 0, 1) := by decide +kernel
theorem dX4_status_29 : decode cX4_status 29 = .ok (.istore_n 2, 1) := by decide +kernel
theorem dX4_status_30 : decode cX4_status 30 = .ok (.iconst 0, 1) := by decide +kernel
theorem dX4_status_31 : decode cX4_status 31 = .ok (.istore_n 3, 1) := by decide +kernel
theorem dX4_status_32 : decode cX4_status 32 = .ok (.iload_n 3, 1) := by decide +kernel
theorem dX4_status_33 : decode cX4_status 33 = .ok (.bipush 7, 2) := by decide +kernel
theorem dX4_status_35 : decode cX4_status 35 = .ok (.if_icmp .ge 18, 3) := by decide +kernel
theorem dX4_status_38 : decode cX4_status 38 = .ok (.iload_n 2, 1) := by decide +kernel
theorem dX4_status_39 : decode cX4_status 39 = .ok (.aload_n 0, 1) := by decide +kernel
theorem dX4_status_40 : decode cX4_status 40 = .ok (.getfield 36, 3) := by decide +kernel
theorem dX4_status_43 : decode cX4_status 43 = .ok (.iload_n 3, 1) := by decide +kernel
theorem dX4_status_44 : decode cX4_status 44 = .ok (.iaload, 1) := by decide +kernel
theorem dX4_status_45 : decode cX4_status 45 = .ok (.iadd, 1) := by decide +kernel
theorem dX4_status_46 : decode cX4_status 46 = .ok (.istore_n 2, 1) := by decide +kernel
theorem dX4_status_47 : decode cX4_status 47 = .ok (.iinc 3 1, 3) := by decide +kernel
theorem dX4_status_50 : decode cX4_status 50 = .ok (.goto (-18), 3) := by decide +kernel
theorem dX4_status_53 : decode cX4_status 53 = .ok (.iload_n 2, 1) := by decide +kernel
theorem dX4_status_54 : decode cX4_status 54 = .ok (.ireturn, 1) := by decide +kernel
theorem dX4_tell_0 : decode cX4_tell 0 = .ok (.ldc 52, 2) := by decide +kernel
theorem dX4_tell_2 : decode cX4_tell 2 = .ok (.iload_n 1, 1) := by decide +kernel
theorem dX4_tell_3 : decode cX4_tell 3 = .ok (.isub, 1) := by decide +kernel
theorem dX4_tell_4 : decode cX4_tell 4 = .ok (.istore_n 2, 1) := by decide +kernel
theorem dX4_tell_5 : decode cX4_tell 5 = .ok (.iload_n 2, 1) := by decide +kernel
theorem dX4_tell_6 : decode cX4_tell 6 = .ok (.iconst 0, 1) := by decide +kernel
theorem dX4_tell_7 : decode cX4_tell 7 = .ok (.bipush 6, 2) := by decide +kernel
theorem dX4_tell_9 : decode cX4_tell 9 = .ok (.invokestatic 48, 3) := by decide +kernel
theorem dX4_tell_12 : decode cX4_tell 12 = .ok (.ifCond .eq 13, 3) := by decide +kernel
theorem dX4_tell_15 : decode cX4_tell 15 = .ok (.aload_n 0, 1) := by decide +kernel
theorem dX4_tell_16 : decode cX4_tell 16 = .ok (.getfield 36, 3) := by decide +kernel
theorem dX4_tell_19 : decode cX4_tell 19 = .ok (.iload_n 2, 1) := by decide +kernel
theorem dX4_tell_20 : decode cX4_tell 20 = .ok (.dup2, 1) := by decide +kernel
theorem dX4_tell_21 : decode cX4_tell 21 = .ok (.iaload, 1) := by decide +kernel
theorem dX4_tell_22 : decode cX4_tell 22 = .ok (.iconst 1, 1) := by decide +kernel
theorem dX4_tell_23 : decode cX4_tell 23 = .ok (.iadd, 1) := by decide +kernel
theorem dX4_tell_24 : decode cX4_tell 24 = .ok (.iastore, 1) := by decide +kernel
theorem dX4_tell_25 : decode cX4_tell 25 = .ok (.iload_n 1, 1) := by decide +kernel
theorem dX4_tell_26 : decode cX4_tell 26 = .ok (.ireturn, 1) := by decide +kernel
theorem dX4_sheetFault_0 : decode cX4_sheetFault 0 = .ok (.iload_n 1, 1) := by decide +kernel
theorem dX4_sheetFault_1 : decode cX4_sheetFault 1 = .ok (.iconst 0, 1) := by decide +kernel
theorem dX4_sheetFault_2 : decode cX4_sheetFault 2 = .ok (.iconst 3, 1) := by decide +kernel
theorem dX4_sheetFault_3 : decode cX4_sheetFault 3 = .ok (.invokestatic 48, 3) := by decide +kernel
theorem dX4_sheetFault_6 : decode cX4_sheetFault 6 = .ok (.ifCond .ne 6, 3) := by decide +kernel
theorem dX4_sheetFault_9 : decode cX4_sheetFault 9 = .ok (.ldc 52, 2) := by decide +kernel
theorem dX4_sheetFault_11 : decode cX4_sheetFault 11 = .ok (.ireturn, 1) := by decide +kernel
theorem dX4_sheetFault_12 : decode cX4_sheetFault 12 = .ok (.aload_n 0, 1) := by decide +kernel
theorem dX4_sheetFault_13 : decode cX4_sheetFault 13 = .ok (.getfield 31, 3) := by decide +kernel
theorem dX4_sheetFault_16 : decode cX4_sheetFault 16 = .ok (.iload_n 1, 1) := by decide +kernel
theorem dX4_sheetFault_17 : decode cX4_sheetFault 17 = .ok (.aaload, 1) := by decide +kernel
theorem dX4_sheetFault_18 : decode cX4_sheetFault 18 = .ok (.getfield 200, 3) := by decide +kernel
theorem dX4_sheetFault_21 : decode cX4_sheetFault 21 = .ok (.ifCond .ne 8, 3) := by decide +kernel
theorem dX4_sheetFault_24 : decode cX4_sheetFault 24 = .ok (.ldc 203, 2) := by decide +kernel
theorem dX4_sheetFault_26 : decode cX4_sheetFault 26 = .ok (.goto 4, 3) := by decide +kernel
theorem dX4_sheetFault_29 : decode cX4_sheetFault 29 = .ok (.iconst 0, 1) := by decide +kernel
theorem dX4_sheetFault_30 : decode cX4_sheetFault 30 = .ok (.ireturn, 1) := by decide +kernel
theorem dX4_isWithin_0 : decode cX4_isWithin 0 = .ok (.iload_n 0, 1) := by decide +kernel
theorem dX4_isWithin_1 : decode cX4_isWithin 1 = .ok (.iload_n 1, 1) := by decide +kernel
theorem dX4_isWithin_2 : decode cX4_isWithin 2 = .ok (.if_icmp .lt 12, 3) := by decide +kernel
theorem dX4_isWithin_5 : decode cX4_isWithin 5 = .ok (.iload_n 0, 1) := by decide +kernel
theorem dX4_isWithin_6 : decode cX4_isWithin 6 = .ok (.iload_n 2, 1) := by decide +kernel
theorem dX4_isWithin_7 : decode cX4_isWithin 7 = .ok (.if_icmp .gt 7, 3) := by decide +kernel
theorem dX4_isWithin_10 : decode cX4_isWithin 10 = .ok (.iconst 1, 1) := by decide +kernel
theorem dX4_isWithin_11 : decode cX4_isWithin 11 = .ok (.goto 4, 3) := by decide +kernel
theorem dX4_isWithin_14 : decode cX4_isWithin 14 = .ok (.iconst 0, 1) := by decide +kernel
theorem dX4_isWithin_15 : decode cX4_isWithin 15 = .ok (.ireturn, 1) := by decide +kernel
theorem dX4_isStreet_0 : decode cX4_isStreet 0 = .ok (.iload_n 0, 1) := by decide +kernel
theorem dX4_isStreet_1 : decode cX4_isStreet 1 = .ok (.ifCond .lt 12, 3) := by decide +kernel
theorem dX4_isStreet_4 : decode cX4_isStreet 4 = .ok (.iload_n 0, 1) := by decide +kernel
theorem dX4_isStreet_5 : decode cX4_isStreet 5 = .ok (.iconst 3, 1) := by decide +kernel
theorem dX4_isStreet_6 : decode cX4_isStreet 6 = .ok (.if_icmp .ge 7, 3) := by decide +kernel
theorem dX4_isStreet_9 : decode cX4_isStreet 9 = .ok (.iconst 1, 1) := by decide +kernel
theorem dX4_isStreet_10 : decode cX4_isStreet 10 = .ok (.goto 4, 3) := by decide +kernel
theorem dX4_isStreet_13 : decode cX4_isStreet 13 = .ok (.iconst 0, 1) := by decide +kernel
theorem dX4_isStreet_14 : decode cX4_isStreet 14 = .ok (.ireturn, 1) := by decide +kernel
theorem dX4_isStretch_0 : decode cX4_isStretch 0 = .ok (.iload_n 0, 1) := by decide +kernel
theorem dX4_isStretch_1 : decode cX4_isStretch 1 = .ok (.invokestatic 75, 3) := by decide +kernel
theorem dX4_isStretch_4 : decode cX4_isStretch 4 = .ok (.ifCond .eq 17, 3) := by decide +kernel
theorem dX4_isStretch_7 : decode cX4_isStretch 7 = .ok (.iload_n 1, 1) := by decide +kernel
theorem dX4_isStretch_8 : decode cX4_isStretch 8 = .ok (.ifCond .lt 13, 3) := by decide +kernel
theorem dX4_isStretch_11 : decode cX4_isStretch 11 = .ok (.iload_n 1, 1) := by decide +kernel
theorem dX4_isStretch_12 : decode cX4_isStretch 12 = .ok (.bipush 20, 2) := by decide +kernel
theorem dX4_isStretch_14 : decode cX4_isStretch 14 = .ok (.if_icmp .ge 7, 3) := by decide +kernel
theorem dX4_isStretch_17 : decode cX4_isStretch 17 = .ok (.iconst 1, 1) := by decide +kernel
theorem dX4_isStretch_18 : decode cX4_isStretch 18 = .ok (.goto 4, 3) := by decide +kernel
theorem dX4_isStretch_21 : decode cX4_isStretch 21 = .ok (.iconst 0, 1) := by decide +kernel
theorem dX4_isStretch_22 : decode cX4_isStretch 22 = .ok (.ireturn, 1) := by decide +kernel
theorem dX4_isKind_0 : decode cX4_isKind 0 = .ok (.iload_n 0, 1) := by decide +kernel
theorem dX4_isKind_1 : decode cX4_isKind 1 = .ok (.ifCond .lt 13, 3) := by decide +kernel
theorem dX4_isKind_4 : decode cX4_isKind 4 = .ok (.iload_n 0, 1) := by decide +kernel
theorem dX4_isKind_5 : decode cX4_isKind 5 = .ok (.bipush 6, 2) := by decide +kernel
theorem dX4_isKind_7 : decode cX4_isKind 7 = .ok (.if_icmp .ge 7, 3) := by decide +kernel
theorem dX4_isKind_10 : decode cX4_isKind 10 = .ok (.iconst 1, 1) := by decide +kernel
theorem dX4_isKind_11 : decode cX4_isKind 11 = .ok (.goto 4, 3) := by decide +kernel
theorem dX4_isKind_14 : decode cX4_isKind 14 = .ok (.iconst 0, 1) := by decide +kernel
theorem dX4_isKind_15 : decode cX4_isKind 15 = .ok (.ireturn, 1) := by decide +kernel
theorem dX4_placeOf_0 : decode cX4_placeOf 0 = .ok (.iload_n 0, 1) := by decide +kernel
theorem dX4_placeOf_1 : decode cX4_placeOf 1 = .ok (.bipush 20, 2) := by decide +kernel
theorem dX4_placeOf_3 : decode cX4_placeOf 3 = .ok (.imul, 1) := by decide +kernel
theorem dX4_placeOf_4 : decode cX4_placeOf 4 = .ok (.iload_n 1, 1) := by decide +kernel
theorem dX4_placeOf_5 : decode cX4_placeOf 5 = .ok (.iadd, 1) := by decide +kernel
theorem dX4_placeOf_6 : decode cX4_placeOf 6 = .ok (.ireturn, 1) := by decide +kernel
