theorem dX0_above_0 : decode cX0_above 0 = .ok (.iload_n 0, 1) := by decide +kernel
theorem dX0_above_1 : decode cX0_above 1 = .ok (.tableswitch 41 1 5 #[35, 35, 35, 37, 39], 35) := by decide +kernel
theorem dX0_above_36 : decode cX0_above 36 = .ok (.iconst 0, 1) := by decide +kernel
theorem dX0_above_37 : decode cX0_above 37 = .ok (.ireturn, 1) := by decide +kernel
theorem dX0_above_38 : decode cX0_above 38 = .ok (.iconst 1, 1) := by decide +kernel
theorem dX0_above_39 : decode cX0_above 39 = .ok (.ireturn, 1) := by decide +kernel
theorem dX0_above_40 : decode cX0_above 40 = .ok (.iconst 3, 1) := by decide +kernel
theorem dX0_above_41 : decode cX0_above 41 = .ok (.ireturn, 1) := by decide +kernel
theorem dX0_above_42 : decode cX0_above 42 = .ok (.iconst (-1), 1) := by decide +kernel
theorem dX0_above_43 : decode cX0_above 43 = .ok (.ireturn, 1) := by decide +kernel
theorem dX0_isOf_0 : decode cX0_isOf 0 = .ok (.iload_n 0, 1) := by decide +kernel
theorem dX0_isOf_1 : decode cX0_isOf 1 = .ok (.istore_n 2, 1) := by decide +kernel
theorem dX0_isOf_2 : decode cX0_isOf 2 = .ok (.iconst 0, 1) := by decide +kernel
theorem dX0_isOf_3 : decode cX0_isOf 3 = .ok (.istore_n 3, 1) := by decide +kernel
theorem dX0_isOf_4 : decode cX0_isOf 4 = .ok (.iload_n 3, 1) := by decide +kernel
theorem dX0_isOf_5 : decode cX0_isOf 5 = .ok (.bipush 6, 2) := by decide +kernel
theorem dX0_isOf_7 : decode cX0_isOf 7 = .ok (.if_icmp .ge 25, 3) := by decide +kernel
theorem dX0_isOf_10 : decode cX0_isOf 10 = .ok (.iload_n 2, 1) := by decide +kernel
theorem dX0_isOf_11 : decode cX0_isOf 11 = .ok (.ifCond .lt 21, 3) := by decide +kernel
theorem dX0_isOf_14 : decode cX0_isOf 14 = .ok (.iload_n 2, 1) := by decide +kernel
theorem dX0_isOf_15 : decode cX0_isOf 15 = .ok (.iload_n 1, 1) := by decide +kernel
theorem dX0_isOf_16 : decode cX0_isOf 16 = .ok (.if_icmp .ne 5, 3) := by decide +kernel
theorem dX0_isOf_19 : decode cX0_isOf 19 = .ok (.iconst 1, 1) := by decide +kernel
theorem dX0_isOf_20 : decode cX0_isOf 20 = .ok (.ireturn, 1) := by decide +kernel
theorem dX0_isOf_21 : decode cX0_isOf 21 = .ok (.iload_n 2, 1) := by decide +kernel
theorem dX0_isOf_22 : decode cX0_isOf 22 = .ok (.invokestatic 9, 3) := by decide +kernel
theorem dX0_isOf_25 : decode cX0_isOf 25 = .ok (.istore_n 2, 1) := by decide +kernel
theorem dX0_isOf_26 : decode cX0_isOf 26 = .ok (.iinc 3 1, 3) := by decide +kernel
theorem dX0_isOf_29 : decode cX0_isOf 29 = .ok (.goto (-25), 3) := by decide +kernel
theorem dX0_isOf_32 : decode cX0_isOf 32 = .ok (.iconst 0, 1) := by decide +kernel
theorem dX0_isOf_33 : decode cX0_isOf 33 = .ok (.ireturn, 1) := by decide +kernel
theorem dX0_slowsTo_0 : decode cX0_slowsTo 0 = .ok (.iload_n 0, 1) := by decide +kernel
theorem dX0_slowsTo_1 : decode cX0_slowsTo 1 = .ok (.iconst 3, 1) := by decide +kernel
theorem dX0_slowsTo_2 : decode cX0_slowsTo 2 = .ok (.if_icmp .eq 8, 3) := by decide +kernel
theorem dX0_slowsTo_5 : decode cX0_slowsTo 5 = .ok (.iload_n 0, 1) := by decide +kernel
theorem dX0_slowsTo_6 : decode cX0_slowsTo 6 = .ok (.iconst 5, 1) := by decide +kernel
theorem dX0_slowsTo_7 : decode cX0_slowsTo 7 = .ok (.if_icmp .ne 7, 3) := by decide +kernel
theorem dX0_slowsTo_10 : decode cX0_slowsTo 10 = .ok (.iconst 1, 1) := by decide +kernel
theorem dX0_slowsTo_11 : decode cX0_slowsTo 11 = .ok (.goto 4, 3) := by decide +kernel
theorem dX0_slowsTo_14 : decode cX0_slowsTo 14 = .ok (.iconst 0, 1) := by decide +kernel
theorem dX0_slowsTo_15 : decode cX0_slowsTo 15 = .ok (.istore 5, 2) := by decide +kernel
theorem dX0_slowsTo_17 : decode cX0_slowsTo 17 = .ok (.iload_n 1, 1) := by decide +kernel
theorem dX0_slowsTo_18 : decode cX0_slowsTo 18 = .ok (.istore 6, 2) := by decide +kernel
theorem dX0_slowsTo_20 : decode cX0_slowsTo 20 = .ok (.iload_n 2, 1) := by decide +kernel
theorem dX0_slowsTo_21 : decode cX0_slowsTo 21 = .ok (.tableswitch 102 1 4 #[31, 42, 59, 76], 31) := by decide +kernel
theorem dX0_slowsTo_52 : decode cX0_slowsTo 52 = .ok (.iload_n 0, 1) := by decide +kernel
theorem dX0_slowsTo_53 : decode cX0_slowsTo 53 = .ok (.iload_n 1, 1) := by decide +kernel
theorem dX0_slowsTo_54 : decode cX0_slowsTo 54 = .ok (.iload_n 3, 1) := by decide +kernel
theorem dX0_slowsTo_55 : decode cX0_slowsTo 55 = .ok (.invokestatic 15, 3) := by decide +kernel
theorem dX0_slowsTo_58 : decode cX0_slowsTo 58 = .ok (.istore 6, 2) := by decide +kernel
theorem dX0_slowsTo_60 : decode cX0_slowsTo 60 = .ok (.goto 63, 3) := by decide +kernel
theorem dX0_slowsTo_63 : decode cX0_slowsTo 63 = .ok (.iload_n 0, 1) := by decide +kernel
theorem dX0_slowsTo_64 : decode cX0_slowsTo 64 = .ok (.iconst 4, 1) := by decide +kernel
theorem dX0_slowsTo_65 : decode cX0_slowsTo 65 = .ok (.if_icmp .ne 7, 3) := by decide +kernel
theorem dX0_slowsTo_68 : decode cX0_slowsTo 68 = .ok (.iload_n 1, 1) := by decide +kernel
theorem dX0_slowsTo_69 : decode cX0_slowsTo 69 = .ok (.goto 6, 3) := by decide +kernel
theorem dX0_slowsTo_72 : decode cX0_slowsTo 72 = .ok (.iload_n 1, 1) := by decide +kernel
theorem dX0_slowsTo_73 : decode cX0_slowsTo 73 = .ok (.iconst 2, 1) := by decide +kernel
theorem dX0_slowsTo_74 : decode cX0_slowsTo 74 = .ok (.idiv, 1) := by decide +kernel
theorem dX0_slowsTo_75 : decode cX0_slowsTo 75 = .ok (.istore 6, 2) := by decide +kernel
theorem dX0_slowsTo_77 : decode cX0_slowsTo 77 = .ok (.goto 46, 3) := by decide +kernel
theorem dX0_slowsTo_80 : decode cX0_slowsTo 80 = .ok (.iload 5, 2) := by decide +kernel
theorem dX0_slowsTo_82 : decode cX0_slowsTo 82 = .ok (.ifCond .eq 7, 3) := by decide +kernel
theorem dX0_slowsTo_85 : decode cX0_slowsTo 85 = .ok (.iload_n 1, 1) := by decide +kernel
theorem dX0_slowsTo_86 : decode cX0_slowsTo 86 = .ok (.goto 6, 3) := by decide +kernel
theorem dX0_slowsTo_89 : decode cX0_slowsTo 89 = .ok (.iload_n 1, 1) := by decide +kernel
theorem dX0_slowsTo_90 : decode cX0_slowsTo 90 = .ok (.iconst 5, 1) := by decide +kernel
theorem dX0_slowsTo_91 : decode cX0_slowsTo 91 = .ok (.isub, 1) := by decide +kernel
theorem dX0_slowsTo_92 : decode cX0_slowsTo 92 = .ok (.istore 6, 2) := by decide +kernel
theorem dX0_slowsTo_94 : decode cX0_slowsTo 94 = .ok (.goto 29, 3) := by decide +kernel
theorem dX0_slowsTo_97 : decode cX0_slowsTo 97 = .ok (.iload 5, 2) := by decide +kernel
theorem dX0_slowsTo_99 : decode cX0_slowsTo 99 = .ok (.ifCond .ne 10, 3) := by decide +kernel
theorem dX0_slowsTo_102 : decode cX0_slowsTo 102 = .ok (.iload 4, 2) := by decide +kernel
theorem dX0_slowsTo_104 : decode cX0_slowsTo 104 = .ok (.bipush 21, 2) := by decide +kernel
theorem dX0_slowsTo_106 : decode cX0_slowsTo 106 = .ok (.if_icmp .lt 7, 3) := by decide +kernel
theorem dX0_slowsTo_109 : decode cX0_slowsTo 109 = .ok (.iload_n 1, 1) := by decide +kernel
theorem dX0_slowsTo_110 : decode cX0_slowsTo 110 = .ok (.goto 8, 3) := by decide +kernel
theorem dX0_slowsTo_113 : decode cX0_slowsTo 113 = .ok (.iload_n 1, 1) := by decide +kernel
theorem dX0_slowsTo_114 : decode cX0_slowsTo 114 = .ok (.iconst 3, 1) := by decide +kernel
theorem dX0_slowsTo_115 : decode cX0_slowsTo 115 = .ok (.imul, 1) := by decide +kernel
theorem dX0_slowsTo_116 : decode cX0_slowsTo 116 = .ok (.iconst 4, 1) := by decide +kernel
theorem dX0_slowsTo_117 : decode cX0_slowsTo 117 = .ok (.idiv, 1) := by decide +kernel
theorem dX0_slowsTo_118 : decode cX0_slowsTo 118 = .ok (.istore 6, 2) := by decide +kernel
theorem dX0_slowsTo_120 : decode cX0_slowsTo 120 = .ok (.goto 3, 3) := by decide +kernel
theorem dX0_slowsTo_123 : decode cX0_slowsTo 123 = .ok (.iload_n 0, 1) := by decide +kernel
theorem dX0_slowsTo_124 : decode cX0_slowsTo 124 = .ok (.iconst 5, 1) := by decide +kernel
theorem dX0_slowsTo_125 : decode cX0_slowsTo 125 = .ok (.if_icmp .ne 14, 3) := by decide +kernel
theorem dX0_slowsTo_128 : decode cX0_slowsTo 128 = .ok (.iload 6, 2) := by decide +kernel
theorem dX0_slowsTo_130 : decode cX0_slowsTo 130 = .ok (.iconst 5, 1) := by decide +kernel
theorem dX0_slowsTo_131 : decode cX0_slowsTo 131 = .ok (.iadd, 1) := by decide +kernel
theorem dX0_slowsTo_132 : decode cX0_slowsTo 132 = .ok (.iload_n 1, 1) := by decide +kernel
theorem dX0_slowsTo_133 : decode cX0_slowsTo 133 = .ok (.invokestatic 19, 3) := by decide +kernel
theorem dX0_slowsTo_136 : decode cX0_slowsTo 136 = .ok (.goto 5, 3) := by decide +kernel
theorem dX0_slowsTo_139 : decode cX0_slowsTo 139 = .ok (.iload 6, 2) := by decide +kernel
theorem dX0_slowsTo_141 : decode cX0_slowsTo 141 = .ok (.ireturn, 1) := by decide +kernel
theorem dX0_overBump_0 : decode cX0_overBump 0 = .ok (.iload_n 0, 1) := by decide +kernel
theorem dX0_overBump_1 : decode cX0_overBump 1 = .ok (.iconst 2, 1) := by decide +kernel
theorem dX0_overBump_2 : decode cX0_overBump 2 = .ok (.if_icmp .ne 11, 3) := by decide +kernel
theorem dX0_overBump_5 : decode cX0_overBump 5 = .ok (.iload_n 2, 1) := by decide +kernel
theorem dX0_overBump_6 : decode cX0_overBump 6 = .ok (.iconst 4, 1) := by decide +kernel
theorem dX0_overBump_7 : decode cX0_overBump 7 = .ok (.if_icmp .lt 6, 3) := by decide +kernel
theorem dX0_overBump_10 : decode cX0_overBump 10 = .ok (.bipush 8, 2) := by decide +kernel
theorem dX0_overBump_12 : decode cX0_overBump 12 = .ok (.ireturn, 1) := by decide +kernel
theorem dX0_overBump_13 : decode cX0_overBump 13 = .ok (.iload_n 0, 1) := by decide +kernel
theorem dX0_overBump_14 : decode cX0_overBump 14 = .ok (.iconst 1, 1) := by decide +kernel
theorem dX0_overBump_15 : decode cX0_overBump 15 = .ok (.if_icmp .eq 8, 3) := by decide +kernel
theorem dX0_overBump_18 : decode cX0_overBump 18 = .ok (.iload_n 0, 1) := by decide +kernel
theorem dX0_overBump_19 : decode cX0_overBump 19 = .ok (.iconst 4, 1) := by decide +kernel
theorem dX0_overBump_20 : decode cX0_overBump 20 = .ok (.if_icmp .ne 7, 3) := by decide +kernel
theorem dX0_overBump_23 : decode cX0_overBump 23 = .ok (.iconst 1, 1) := by decide +kernel
theorem dX0_overBump_24 : decode cX0_overBump 24 = .ok (.goto 4, 3) := by decide +kernel
theorem dX0_overBump_27 : decode cX0_overBump 27 = .ok (.iconst 0, 1) := by decide +kernel
theorem dX0_overBump_28 : decode cX0_overBump 28 = .ok (.istore_n 3, 1) := by decide +kernel
theorem dX0_overBump_29 : decode cX0_overBump 29 = .ok (.iload_n 1, 1) := by decide +kernel
theorem dX0_overBump_30 : decode cX0_overBump 30 = .ok (.iload_n 3, 1) := by decide +kernel
theorem dX0_overBump_31 : decode cX0_overBump 31 = .ok (.ifCond .eq 7, 3) := by decide +kernel
theorem dX0_overBump_34 : decode cX0_overBump 34 = .ok (.iconst 4, 1) := by decide +kernel
theorem dX0_overBump_35 : decode cX0_overBump 35 = .ok (.goto 5, 3) := by decide +kernel
theorem dX0_overBump_38 : decode cX0_overBump 38 = .ok (.bipush 8, 2) := by decide +kernel
theorem dX0_overBump_40 : decode cX0_overBump 40 = .ok (.iload_n 2, 1) := by decide +kernel
theorem dX0_overBump_41 : decode cX0_overBump 41 = .ok (.imul, 1) := by decide +kernel
theorem dX0_overBump_42 : decode cX0_overBump 42 = .ok (.isub, 1) := by decide +kernel
theorem dX0_overBump_43 : decode cX0_overBump 43 = .ok (.istore 4, 2) := by decide +kernel
theorem dX0_overBump_45 : decode cX0_overBump 45 = .ok (.iload 4, 2) := by decide +kernel
theorem dX0_overBump_47 : decode cX0_overBump 47 = .ok (.iconst 5, 1) := by decide +kernel
theorem dX0_overBump_48 : decode cX0_overBump 48 = .ok (.if_icmp .ge 7, 3) := by decide +kernel
theorem dX0_overBump_51 : decode cX0_overBump 51 = .ok (.iconst 5, 1) := by decide +kernel
theorem dX0_overBump_52 : decode cX0_overBump 52 = .ok (.goto 5, 3) := by decide +kernel
theorem dX0_overBump_55 : decode cX0_overBump 55 = .ok (.iload 4, 2) := by decide +kernel
theorem dX0_overBump_57 : decode cX0_overBump 57 = .ok (.ireturn, 1) := by decide +kernel
theorem dX0_hurries_0 : decode cX0_hurries 0 = .ok (.iload_n 0, 1) := by decide +kernel
theorem dX0_hurries_1 : decode cX0_hurries 1 = .ok (.tableswitch 41 1 5 #[35, 35, 41, 41, 38], 35) := by decide +kernel
theorem dX0_hurries_36 : decode cX0_hurries 36 = .ok (.bipush 6, 2) := by decide +kernel
theorem dX0_hurries_38 : decode cX0_hurries 38 = .ok (.ireturn, 1) := by decide +kernel
theorem dX0_hurries_39 : decode cX0_hurries 39 = .ok (.bipush 22, 2) := by decide +kernel
theorem dX0_hurries_41 : decode cX0_hurries 41 = .ok (.ireturn, 1) := by decide +kernel
theorem dX0_hurries_42 : decode cX0_hurries 42 = .ok (.bipush 12, 2) := by decide +kernel
theorem dX0_hurries_44 : decode cX0_hurries 44 = .ok (.ireturn, 1) := by decide +kernel
theorem dX0_shakes_0 : decode cX0_shakes 0 = .ok (.iload_n 1, 1) := by decide +kernel
theorem dX0_shakes_1 : decode cX0_shakes 1 = .ok (.iload_n 2, 1) := by decide +kernel
theorem dX0_shakes_2 : decode cX0_shakes 2 = .ok (.imul, 1) := by decide +kernel
theorem dX0_shakes_3 : decode cX0_shakes 3 = .ok (.bipush 10, 2) := by decide +kernel
theorem dX0_shakes_5 : decode cX0_shakes 5 = .ok (.idiv, 1) := by decide +kernel
theorem dX0_shakes_6 : decode cX0_shakes 6 = .ok (.istore_n 3, 1) := by decide +kernel
theorem dX0_shakes_7 : decode cX0_shakes 7 = .ok (.iload_n 0, 1) := by decide +kernel
theorem dX0_shakes_8 : decode cX0_shakes 8 = .ok (.tableswitch 48 1 5 #[36, 40, 48, 36, 44], 36) := by decide +kernel
theorem dX0_shakes_44 : decode cX0_shakes 44 = .ok (.iload_n 3, 1) := by decide +kernel
theorem dX0_shakes_45 : decode cX0_shakes 45 = .ok (.iload_n 2, 1) := by decide +kernel
theorem dX0_shakes_46 : decode cX0_shakes 46 = .ok (.iadd, 1) := by decide +kernel
theorem dX0_shakes_47 : decode cX0_shakes 47 = .ok (.ireturn, 1) := by decide +kernel
theorem dX0_shakes_48 : decode cX0_shakes 48 = .ok (.iconst 2, 1) := by decide +kernel
theorem dX0_shakes_49 : decode cX0_shakes 49 = .ok (.iload_n 3, 1) := by decide +kernel
theorem dX0_shakes_50 : decode cX0_shakes 50 = .ok (.imul, 1) := by decide +kernel
theorem dX0_shakes_51 : decode cX0_shakes 51 = .ok (.ireturn, 1) := by decide +kernel
theorem dX0_shakes_52 : decode cX0_shakes 52 = .ok (.iload_n 3, 1) := by decide +kernel
theorem dX0_shakes_53 : decode cX0_shakes 53 = .ok (.iconst 1, 1) := by decide +kernel
theorem dX0_shakes_54 : decode cX0_shakes 54 = .ok (.iadd, 1) := by decide +kernel
theorem dX0_shakes_55 : decode cX0_shakes 55 = .ok (.ireturn, 1) := by decide +kernel
theorem dX0_shakes_56 : decode cX0_shakes 56 = .ok (.iload_n 3, 1) := by decide +kernel
theorem dX0_shakes_57 : decode cX0_shakes 57 = .ok (.ireturn, 1) := by decide +kernel
theorem dX1_init_0 : decode cX1_init 0 = .ok (.aload_n 0, 1) := by decide +kernel
theorem dX1_init_1 : decode cX1_init 1 = .ok (.invokespecial 3, 3) := by decide +kernel
theorem dX1_init_4 : decode cX1_init 4 = .ok (.aload_n 0, 1) := by decide +kernel
theorem dX1_init_5 : decode cX1_init 5 = .ok (.iconst 0, 1) := by decide +kernel
theorem dX1_init_6 : decode cX1_init 6 = .ok (.putfield 9, 3) := by decide +kernel
theorem dX1_init_9 : decode cX1_init 9 = .ok (.aload_n 0, 1) := by decide +kernel
theorem dX1_init_10 : decode cX1_init 10 = .ok (.iconst 0, 1) := by decide +kernel
theorem dX1_init_11 : decode cX1_init 11 = .ok (.putfield 15, 3) := by decide +kernel
theorem dX1_init_14 : decode cX1_init 14 = .ok (.aload_n 0, 1) := by decide +kernel
theorem dX1_init_15 : decode cX1_init 15 = .ok (.bipush 40, 2) := by decide +kernel
theorem dX1_init_17 : decode cX1_init 17 = .ok (.newarray .long, 2) := by decide +kernel
theorem dX1_init_19 : decode cX1_init 19 = .ok (.putfield 18, 3) := by decide +kernel
theorem dX1_init_22 : decode cX1_init 22 = .ok (.return_, 1) := by decide +kernel
theorem dX1_become_0 : decode cX1_become 0 = .ok (.aload_n 0, 1) := by decide +kernel
theorem dX1_become_1 : decode cX1_become 1 = .ok (.iload_n 1, 1) := by decide +kernel
theorem dX1_become_2 : decode cX1_become 2 = .ok (.putfield 9, 3) := by decide +kernel
theorem dX1_become_5 : decode cX1_become 5 = .ok (.aload_n 0, 1) := by decide +kernel
theorem dX1_become_6 : decode cX1_become 6 = .ok (.iload_n 2, 1) := by decide +kernel
theorem dX1_become_7 : decode cX1_become 7 = .ok (.putfield 15, 3) := by decide +kernel
theorem dX1_become_10 : decode cX1_become 10 = .ok (.iconst 0, 1) := by decide +kernel
theorem dX1_become_11 : decode cX1_become 11 = .ok (.istore_n 3, 1) := by decide +kernel
theorem dX1_become_12 : decode cX1_become 12 = .ok (.iload_n 3, 1) := by decide +kernel
theorem dX1_become_13 : decode cX1_become 13 = .ok (.bipush 40, 2) := by decide +kernel
theorem dX1_become_15 : decode cX1_become 15 = .ok (.if_icmp .ge 16, 3) := by decide +kernel
theorem dX1_become_18 : decode cX1_become 18 = .ok (.aload_n 0, 1) := by decide +kernel
theorem dX1_become_19 : decode cX1_become 19 = .ok (.getfield 18, 3) := by decide +kernel
theorem dX1_become_22 : decode cX1_become 22 = .ok (.iload_n 3, 1) := by decide +kernel
theorem dX1_become_23 : decode cX1_become 23 = .ok (.lconst 0, 1) := by decide +kernel
theorem dX1_become_24 : decode cX1_become 24 = .ok (.lastore, 1) := by decide +kernel
theorem dX1_become_25 : decode cX1_become 25 = .ok (.iinc 3 1, 3) := by decide +kernel
theorem dX1_become_28 : decode cX1_become 28 = .ok (.goto (-16), 3) := by decide +kernel
theorem dX1_become_31 : decode cX1_become 31 = .ok (.return_, 1) := by decide +kernel
theorem dX1_put_0 : decode cX1_put 0 = .ok (.aload_n 0, 1) := by decide +kernel
theorem dX1_put_1 : decode cX1_put 1 = .ok (.getfield 9, 3) := by decide +kernel
theorem dX1_put_4 : decode cX1_put 4 = .ok (.bipush 8, 2) := by decide +kernel
theorem dX1_put_6 : decode cX1_put 6 = .ok (.if_icmp .ne 16, 3) := by decide +kernel
theorem dX1_put_9 : decode cX1_put 9 = .ok (.aload_n 0, 1) := by decide +kernel
theorem dX1_put_10 : decode cX1_put 10 = .ok (.getfield 18, 3) := by decide +kernel
theorem dX1_put_13 : decode cX1_put 13 = .ok (.iload_n 1, 1) := by decide +kernel
theorem dX1_put_14 : decode cX1_put 14 = .ok (.lload_n 2, 1) := by decide +kernel
theorem dX1_put_15 : decode cX1_put 15 = .ok (.l2i, 1) := by decide +kernel
theorem dX1_put_16 : decode cX1_put 16 = .ok (.i2b, 1) := by decide +kernel
theorem dX1_put_17 : decode cX1_put 17 = .ok (.i2l, 1) := by decide +kernel
theorem dX1_put_18 : decode cX1_put 18 = .ok (.lastore, 1) := by decide +kernel
theorem dX1_put_19 : decode cX1_put 19 = .ok (.goto 32, 3) := by decide +kernel
theorem dX1_put_22 : decode cX1_put 22 = .ok (.aload_n 0, 1) := by decide +kernel
theorem dX1_put_23 : decode cX1_put 23 = .ok (.getfield 9, 3) := by decide +kernel
theorem dX1_put_26 : decode cX1_put 26 = .ok (.bipush 16, 2) := by decide +kernel
theorem dX1_put_28 : decode cX1_put 28 = .ok (.if_icmp .ne 16, 3) := by decide +kernel
theorem dX1_put_31 : decode cX1_put 31 = .ok (.aload_n 0, 1) := by decide +kernel
theorem dX1_put_32 : decode cX1_put 32 = .ok (.getfield 18, 3) := by decide +kernel
theorem dX1_put_35 : decode cX1_put 35 = .ok (.iload_n 1, 1) := by decide +kernel
theorem dX1_put_36 : decode cX1_put 36 = .ok (.lload_n 2, 1) := by decide +kernel
theorem dX1_put_37 : decode cX1_put 37 = .ok (.l2i, 1) := by decide +kernel
theorem dX1_put_38 : decode cX1_put 38 = .ok (.i2s, 1) := by decide +kernel
theorem dX1_put_39 : decode cX1_put 39 = .ok (.i2l, 1) := by decide +kernel
theorem dX1_put_40 : decode cX1_put 40 = .ok (.lastore, 1) := by decide +kernel
theorem dX1_put_41 : decode cX1_put 41 = .ok (.goto 10, 3) := by decide +kernel
theorem dX1_put_44 : decode cX1_put 44 = .ok (.aload_n 0, 1) := by decide +kernel
theorem dX1_put_45 : decode cX1_put 45 = .ok (.getfield 18, 3) := by decide +kernel
theorem dX1_put_48 : decode cX1_put 48 = .ok (.iload_n 1, 1) := by decide +kernel
theorem dX1_put_49 : decode cX1_put 49 = .ok (.lload_n 2, 1) := by decide +kernel
theorem dX1_put_50 : decode cX1_put 50 = .ok (.lastore, 1) := by decide +kernel
theorem dX1_put_51 : decode cX1_put 51 = .ok (.return_, 1) := by decide +kernel
theorem dX1_hasPart_0 : decode cX1_hasPart 0 = .ok (.iload_n 1, 1) := by decide +kernel
theorem dX1_hasPart_1 : decode cX1_hasPart 1 = .ok (.ifCond .lt 29, 3) := by decide +kernel
theorem dX1_hasPart_4 : decode cX1_hasPart 4 = .ok (.iload_n 2, 1) := by decide +kernel
theorem dX1_hasPart_5 : decode cX1_hasPart 5 = .ok (.ifCond .lt 25, 3) := by decide +kernel
theorem dX1_hasPart_8 : decode cX1_hasPart 8 = .ok (.iload_n 2, 1) := by decide +kernel
theorem dX1_hasPart_9 : decode cX1_hasPart 9 = .ok (.aload_n 0, 1) := by decide +kernel
theorem dX1_hasPart_10 : decode cX1_hasPart 10 = .ok (.getfield 15, 3) := by decide +kernel
theorem dX1_hasPart_13 : decode cX1_hasPart 13 = .ok (.if_icmp .gt 17, 3) := by decide +kernel
theorem dX1_hasPart_16 : decode cX1_hasPart 16 = .ok (.iload_n 1, 1) := by decide +kernel
theorem dX1_hasPart_17 : decode cX1_hasPart 17 = .ok (.aload_n 0, 1) := by decide +kernel
theorem dX1_hasPart_18 : decode cX1_hasPart 18 = .ok (.getfield 15, 3) := by decide +kernel
theorem dX1_hasPart_21 : decode cX1_hasPart 21 = .ok (.iload_n 2, 1) := by decide +kernel
theorem dX1_hasPart_22 : decode cX1_hasPart 22 = .ok (.isub, 1) := by decide +kernel
theorem dX1_hasPart_23 : decode cX1_hasPart 23 = .ok (.if_icmp .gt 7, 3) := by decide +kernel
theorem dX1_hasPart_26 : decode cX1_hasPart 26 = .ok (.iconst 1, 1) := by decide +kernel
theorem dX1_hasPart_27 : decode cX1_hasPart 27 = .ok (.goto 4, 3) := by decide +kernel
theorem dX1_hasPart_30 : decode cX1_hasPart 30 = .ok (.iconst 0, 1) := by decide +kernel
theorem dX1_hasPart_31 : decode cX1_hasPart 31 = .ok (.ireturn, 1) := by decide +kernel
theorem dX2_init_0 : decode cX2_init 0 = .ok (.aload_n 0, 1) := by decide +kernel
theorem dX2_init_1 : decode cX2_init 1 = .ok (.invokespecial 3, 3) := by decide +kernel
theorem dX2_init_4 : decode cX2_init 4 = .ok (.aload_n 0, 1) := by decide +kernel
theorem dX2_init_5 : decode cX2_init 5 = .ok (.bipush 120, 2) := by decide +kernel
theorem dX2_init_7 : decode cX2_init 7 = .ok (.newarray .int, 2) := by decide +kernel
theorem dX2_init_9 : decode cX2_init 9 = .ok (.putfield 9, 3) := by decide +kernel
theorem dX2_init_12 : decode cX2_init 12 = .ok (.aload_n 0, 1) := by decide +kernel
theorem dX2_init_13 : decode cX2_init 13 = .ok (.iconst 0, 1) := by decide +kernel
theorem dX2_init_14 : decode cX2_init 14 = .ok (.putfield 15, 3) := by decide +kernel
theorem dX2_init_17 : decode cX2_init 17 = .ok (.return_, 1) := by decide +kernel
theorem dX2_append_0 : decode cX2_append 0 = .ok (.iload_n 2, 1) := by decide +kernel
theorem dX2_append_1 : decode cX2_append 1 = .ok (.iconst 1, 1) := by decide +kernel
theorem dX2_append_2 : decode cX2_append 2 = .ok (.isub, 1) := by decide +kernel
theorem dX2_append_3 : decode cX2_append 3 = .ok (.istore_n 3, 1) := by decide +kernel
theorem dX2_append_4 : decode cX2_append 4 = .ok (.iload_n 3, 1) := by decide +kernel
theorem dX2_append_5 : decode cX2_append 5 = .ok (.ifCond .lt 47, 3) := by decide +kernel
theorem dX2_append_8 : decode cX2_append 8 = .ok (.aload_n 0, 1) := by decide +kernel
theorem dX2_append_9 : decode cX2_append 9 = .ok (.getfield 15, 3) := by decide +kernel
theorem dX2_append_12 : decode cX2_append 12 = .ok (.bipush 120, 2) := by decide +kernel
theorem dX2_append_14 : decode cX2_append 14 = .ok (.if_icmp .ge 38, 3) := by decide +kernel
theorem dX2_append_17 : decode cX2_append 17 = .ok (.aload_n 0, 1) := by decide +kernel
theorem dX2_append_18 : decode cX2_append 18 = .ok (.getfield 9, 3) := by decide +kernel
theorem dX2_append_21 : decode cX2_append 21 = .ok (.aload_n 0, 1) := by decide +kernel
theorem dX2_append_22 : decode cX2_append 22 = .ok (.getfield 15, 3) := by decide +kernel
theorem dX2_append_25 : decode cX2_append 25 = .ok (.iload_n 1, 1) := by decide +kernel
theorem dX2_append_26 : decode cX2_append 26 = .ok (.bipush 8, 2) := by decide +kernel
theorem dX2_append_28 : decode cX2_append 28 = .ok (.iload_n 3, 1) := by decide +kernel
theorem dX2_append_29 : decode cX2_append 29 = .ok (.imul, 1) := by decide +kernel
theorem dX2_append_30 : decode cX2_append 30 = .ok (.iushr, 1) := by decide +kernel
theorem dX2_append_31 : decode cX2_append 31 = .ok (.sipush 255, 3) := by decide +kernel
theorem dX2_append_34 : decode cX2_append 34 = .ok (.iand, 1) := by decide +kernel
theorem dX2_append_35 : decode cX2_append 35 = .ok (.iastore, 1) := by decide +kernel
theorem dX2_append_36 : decode cX2_append 36 = .ok (.aload_n 0, 1) := by decide +kernel
theorem dX2_append_37 : decode cX2_append 37 = .ok (.dup, 1) := by decide +kernel
theorem dX2_append_38 : decode cX2_append 38 = .ok (.getfield 15, 3) := by decide +kernel
theorem dX2_append_41 : decode cX2_append 41 = .ok (.iconst 1, 1) := by decide +kernel
theorem dX2_append_42 : decode cX2_append 42 = .ok (.iadd, 1) := by decide +kernel
theorem dX2_append_43 : decode cX2_append 43 = .ok (.putfield 15, 3) := by decide +kernel
theorem dX2_append_46 : decode cX2_append 46 = .ok (.iinc 3 (-1), 3) := by decide +kernel
theorem dX2_append_49 : decode cX2_append 49 = .ok (.goto (-45), 3) := by decide +kernel
theorem dX2_append_52 : decode cX2_append 52 = .ok (.return_, 1) := by decide +kernel
theorem dX2_tellInto_0 : decode cX2_tellInto 0 = .ok (.aload_n 0, 1) := by decide +kernel
theorem dX2_tellInto_1 : decode cX2_tellInto 1 = .ok (.iconst 0, 1) := by decide +kernel
theorem dX2_tellInto_2 : decode cX2_tellInto 2 = .ok (.putfield 19, 3) := by decide +kernel
theorem dX2_tellInto_5 : decode cX2_tellInto 5 = .ok (.aload_n 0, 1) := by decide +kernel
theorem dX2_tellInto_6 : decode cX2_tellInto 6 = .ok (.invokevirtual 22, 3) := by decide +kernel
theorem dX2_tellInto_9 : decode cX2_tellInto 9 = .ok (.iconst 1, 1) := by decide +kernel
theorem dX2_tellInto_10 : decode cX2_tellInto 10 = .ok (.istore_n 2, 1) := by decide +kernel
theorem dX2_tellInto_11 : decode cX2_tellInto 11 = .ok (.iload_n 2, 1) := by decide +kernel
theorem dX2_tellInto_12 : decode cX2_tellInto 12 = .ok (.bipush 120, 2) := by decide +kernel
theorem dX2_tellInto_14 : decode cX2_tellInto 14 = .ok (.if_icmp .gt 52, 3) := by decide +kernel
theorem dX2_tellInto_17 : decode cX2_tellInto 17 = .ok (.aload_n 0, 1) := by decide +kernel
theorem dX2_tellInto_18 : decode cX2_tellInto 18 = .ok (.aload_n 1, 1) := by decide +kernel
theorem dX2_tellInto_19 : decode cX2_tellInto 19 = .ok (.invokevirtual 25, 3) := by decide +kernel
theorem dX2_tellInto_22 : decode cX2_tellInto 22 = .ok (.ifCond .ne 10, 3) := by decide +kernel
theorem dX2_tellInto_25 : decode cX2_tellInto 25 = .ok (.iconst (-1), 1) := by decide +kernel
theorem dX2_tellInto_26 : decode cX2_tellInto 26 = .ok (.aload_n 0, 1) := by decide +kernel
theorem dX2_tellInto_27 : decode cX2_tellInto 27 = .ok (.getfield 29, 3) := by decide +kernel
theorem dX2_tellInto_30 : decode cX2_tellInto 30 = .ok (.isub, 1) := by decide +kernel
theorem dX2_tellInto_31 : decode cX2_tellInto 31 = .ok (.ireturn, 1) := by decide +kernel
theorem dX2_tellInto_32 : decode cX2_tellInto 32 = .ok (.aload_n 0, 1) := by decide +kernel
theorem dX2_tellInto_33 : decode cX2_tellInto 33 = .ok (.getfield 32, 3) := by decide +kernel
theorem dX2_tellInto_36 : decode cX2_tellInto 36 = .ok (.ifCond .ne 5, 3) := by decide +kernel
theorem dX2_tellInto_39 : decode cX2_tellInto 39 = .ok (.iload_n 2, 1) := by decide +kernel
theorem dX2_tellInto_40 : decode cX2_tellInto 40 = .ok (.ireturn, 1) := by decide +kernel
theorem dX2_tellInto_41 : decode cX2_tellInto 41 = .ok (.aload_n 0, 1) := by decide +kernel
theorem dX2_tellInto_42 : decode cX2_tellInto 42 = .ok (.getfield 32, 3) := by decide +kernel
theorem dX2_tellInto_45 : decode cX2_tellInto 45 = .ok (.iconst 3, 1) := by decide +kernel
theorem dX2_tellInto_46 : decode cX2_tellInto 46 = .ok (.if_icmp .eq 10, 3) := by decide +kernel
theorem dX2_tellInto_49 : decode cX2_tellInto 49 = .ok (.iconst (-1), 1) := by decide +kernel
theorem dX2_tellInto_50 : decode cX2_tellInto 50 = .ok (.aload_n 0, 1) := by decide +kernel
theorem dX2_tellInto_51 : decode cX2_tellInto 51 = .ok (.getfield 29, 3) := by decide +kernel
theorem dX2_tellInto_54 : decode cX2_tellInto 54 = .ok (.isub, 1) := by decide +kernel
theorem dX2_tellInto_55 : decode cX2_tellInto 55 = .ok (.ireturn, 1) := by decide +kernel
theorem dX2_tellInto_56 : decode cX2_tellInto 56 = .ok (.aload_n 0, 1) := by decide +kernel
theorem dX2_tellInto_57 : decode cX2_tellInto 57 = .ok (.invokevirtual 22, 3) := by decide +kernel
theorem dX2_tellInto_60 : decode cX2_tellInto 60 = .ok (.iinc 2 1, 3) := by decide +kernel
theorem dX2_tellInto_63 : decode cX2_tellInto 63 = .ok (.goto (-52), 3) := by decide +kernel
theorem dX2_tellInto_66 : decode cX2_tellInto 66 = .ok (.iconst (-1), 1) := by decide +kernel
theorem dX2_tellInto_67 : decode cX2_tellInto 67 = .ok (.aload_n 0, 1) := by decide +kernel
theorem dX2_tellInto_68 : decode cX2_tellInto 68 = .ok (.getfield 29, 3) := by decide +kernel
theorem dX2_tellInto_71 : decode cX2_tellInto 71 = .ok (.isub, 1) := by decide +kernel
theorem dX2_tellInto_72 : decode cX2_tellInto 72 = .ok (.ireturn, 1) := by decide +kernel
theorem dX2_takeItem_0 : decode cX2_takeItem 0 = .ok (.aload_n 0, 1) := by decide +kernel
theorem dX2_takeItem_1 : decode cX2_takeItem 1 = .ok (.getfield 32, 3) := by decide +kernel
theorem dX2_takeItem_4 : decode cX2_takeItem 4 = .ok (.iconst 1, 1) := by decide +kernel
theorem dX2_takeItem_5 : decode cX2_takeItem 5 = .ok (.if_icmp .eq 5, 3) := by decide +kernel
theorem dX2_takeItem_8 : decode cX2_takeItem 8 = .ok (.iconst 0, 1) := by decide +kernel
theorem dX2_takeItem_9 : decode cX2_takeItem 9 = .ok (.ireturn, 1) := by decide +kernel
theorem dX2_takeItem_10 : decode cX2_takeItem 10 = .ok (.aload_n 0, 1) := by decide +kernel
theorem dX2_takeItem_11 : decode cX2_takeItem 11 = .ok (.invokevirtual 35, 3) := by decide +kernel
theorem dX2_takeItem_14 : decode cX2_takeItem 14 = .ok (.istore_n 2, 1) := by decide +kernel
theorem dX2_takeItem_15 : decode cX2_takeItem 15 = .ok (.iload_n 2, 1) := by decide +kernel
theorem dX2_takeItem_16 : decode cX2_takeItem 16 = .ok (.ifCond .lt 10, 3) := by decide +kernel
theorem dX2_takeItem_19 : decode cX2_takeItem 19 = .ok (.aload_n 0, 1) := by decide +kernel
theorem dX2_takeItem_20 : decode cX2_takeItem 20 = .ok (.aload_n 1, 1) := by decide +kernel
theorem dX2_takeItem_21 : decode cX2_takeItem 21 = .ok (.iload_n 2, 1) := by decide +kernel
theorem dX2_takeItem_22 : decode cX2_takeItem 22 = .ok (.invokevirtual 39, 3) := by decide +kernel
theorem dX2_takeItem_25 : decode cX2_takeItem 25 = .ok (.ireturn, 1) := by decide +kernel
theorem dX2_takeItem_26 : decode cX2_takeItem 26 = .ok (.aload_n 0, 1) := by decide +kernel
theorem dX2_takeItem_27 : decode cX2_takeItem 27 = .ok (.invokevirtual 43, 3) := by decide +kernel
theorem dX2_takeItem_30 : decode cX2_takeItem 30 = .ok (.istore_n 3, 1) := by decide +kernel
theorem dX2_takeItem_31 : decode cX2_takeItem 31 = .ok (.iload_n 3, 1) := by decide +kernel
theorem dX2_takeItem_32 : decode cX2_takeItem 32 = .ok (.ifCond .lt 10, 3) := by decide +kernel
theorem dX2_takeItem_35 : decode cX2_takeItem 35 = .ok (.aload_n 0, 1) := by decide +kernel
theorem dX2_takeItem_36 : decode cX2_takeItem 36 = .ok (.aload_n 1, 1) := by decide +kernel
theorem dX2_takeItem_37 : decode cX2_takeItem 37 = .ok (.iload_n 3, 1) := by decide +kernel
theorem dX2_takeItem_38 : decode cX2_takeItem 38 = .ok (.invokevirtual 46, 3) := by decide +kernel
theorem dX2_takeItem_41 : decode cX2_takeItem 41 = .ok (.ireturn, 1) := by decide +kernel
theorem dX2_takeItem_42 : decode cX2_takeItem 42 = .ok (.aload_n 0, 1) := by decide +kernel
theorem dX2_takeItem_43 : decode cX2_takeItem 43 = .ok (.ldc 49, 2) := by decide +kernel
theorem dX2_takeItem_45 : decode cX2_takeItem 45 = .ok (.invokevirtual 51, 3) := by decide +kernel
theorem dX2_takeItem_48 : decode cX2_takeItem 48 = .ok (.ifCond .ne 5, 3) := by decide +kernel
theorem dX2_takeItem_51 : decode cX2_takeItem 51 = .ok (.iconst 0, 1) := by decide +kernel
theorem dX2_takeItem_52 : decode cX2_takeItem 52 = .ok (.ireturn, 1) := by decide +kernel
theorem dX2_takeItem_53 : decode cX2_takeItem 53 = .ok (.aload_n 0, 1) := by decide +kernel
theorem dX2_takeItem_54 : decode cX2_takeItem 54 = .ok (.invokevirtual 22, 3) := by decide +kernel
theorem dX2_takeItem_57 : decode cX2_takeItem 57 = .ok (.aload_n 0, 1) := by decide +kernel
theorem dX2_takeItem_58 : decode cX2_takeItem 58 = .ok (.iconst 1, 1) := by decide +kernel
theorem dX2_takeItem_59 : decode cX2_takeItem 59 = .ok (.bipush 6, 2) := by decide +kernel
theorem dX2_takeItem_61 : decode cX2_takeItem 61 = .ok (.invokevirtual 55, 3) := by decide +kernel
theorem dX2_takeItem_64 : decode cX2_takeItem 64 = .ok (.ifCond .ne 5, 3) := by decide +kernel
theorem dX2_takeItem_67 : decode cX2_takeItem 67 = .ok (.iconst 0, 1) := by decide +kernel
theorem dX2_takeItem_68 : decode cX2_takeItem 68 = .ok (.ireturn, 1) := by decide +kernel
theorem dX2_takeItem_69 : decode cX2_takeItem 69 = .ok (.aload_n 1, 1) := by decide +kernel
theorem dX2_takeItem_70 : decode cX2_takeItem 70 = .ok (.aload_n 0, 1) := by decide +kernel
theorem dX2_takeItem_71 : decode cX2_takeItem 71 = .ok (.getfield 59, 3) := by decide +kernel
theorem dX2_takeItem_74 : decode cX2_takeItem 74 = .ok (.putfield 62, 3) := by decide +kernel
theorem dX2_takeItem_77 : decode cX2_takeItem 77 = .ok (.aload_n 0, 1) := by decide +kernel
theorem dX2_takeItem_78 : decode cX2_takeItem 78 = .ok (.invokevirtual 22, 3) := by decide +kernel
theorem dX2_takeItem_81 : decode cX2_takeItem 81 = .ok (.iconst 1, 1) := by decide +kernel
theorem dX2_takeItem_82 : decode cX2_takeItem 82 = .ok (.ireturn, 1) := by decide +kernel
theorem dX2_takeDriver_0 : decode cX2_takeDriver 0 = .ok (.aload_n 1, 1) := by decide +kernel
theorem dX2_takeDriver_1 : decode cX2_takeDriver 1 = .ok (.getfield 67, 3) := by decide +kernel
theorem dX2_takeDriver_4 : decode cX2_takeDriver 4 = .ok (.bipush 8, 2) := by decide +kernel
theorem dX2_takeDriver_6 : decode cX2_takeDriver 6 = .ok (.if_icmp .lt 5, 3) := by decide +kernel
theorem dX2_takeDriver_9 : decode cX2_takeDriver 9 = .ok (.iconst 0, 1) := by decide +kernel
theorem dX2_takeDriver_10 : decode cX2_takeDriver 10 = .ok (.ireturn, 1) := by decide +kernel
theorem dX2_takeDriver_11 : decode cX2_takeDriver 11 = .ok (.aload_n 1, 1) := by decide +kernel
theorem dX2_takeDriver_12 : decode cX2_takeDriver 12 = .ok (.iload_n 2, 1) := by decide +kernel
theorem dX2_takeDriver_13 : decode cX2_takeDriver 13 = .ok (.invokevirtual 70, 3) := by decide +kernel
theorem dX2_takeDriver_16 : decode cX2_takeDriver 16 = .ok (.istore_n 3, 1) := by decide +kernel
theorem dX2_takeDriver_17 : decode cX2_takeDriver 17 = .ok (.aload_n 0, 1) := by decide +kernel
theorem dX2_takeDriver_18 : decode cX2_takeDriver 18 = .ok (.invokevirtual 22, 3) := by decide +kernel
theorem dX2_takeDriver_21 : decode cX2_takeDriver 21 = .ok (.aload_n 0, 1) := by decide +kernel
theorem dX2_takeDriver_22 : decode cX2_takeDriver 22 = .ok (.ldc 74, 2) := by decide +kernel
theorem dX2_takeDriver_24 : decode cX2_takeDriver 24 = .ok (.invokevirtual 51, 3) := by decide +kernel
theorem dX2_takeDriver_27 : decode cX2_takeDriver 27 = .ok (.ifCond .eq 34, 3) := by decide +kernel
theorem dX2_takeDriver_30 : decode cX2_takeDriver 30 = .ok (.aload_n 0, 1) := by decide +kernel
theorem dX2_takeDriver_31 : decode cX2_takeDriver 31 = .ok (.invokevirtual 22, 3) := by decide +kernel
theorem dX2_takeDriver_34 : decode cX2_takeDriver 34 = .ok (.aload_n 0, 1) := by decide +kernel
theorem dX2_takeDriver_35 : decode cX2_takeDriver 35 = .ok (.bipush 10, 2) := by decide +kernel
theorem dX2_takeDriver_37 : decode cX2_takeDriver 37 = .ok (.bipush 80, 2) := by decide +kernel
theorem dX2_takeDriver_39 : decode cX2_takeDriver 39 = .ok (.invokevirtual 55, 3) := by decide +kernel
theorem dX2_takeDriver_42 : decode cX2_takeDriver 42 = .ok (.ifCond .ne 5, 3) := by decide +kernel
theorem dX2_takeDriver_45 : decode cX2_takeDriver 45 = .ok (.iconst 0, 1) := by decide +kernel
theorem dX2_takeDriver_46 : decode cX2_takeDriver 46 = .ok (.ireturn, 1) := by decide +kernel
theorem dX2_takeDriver_47 : decode cX2_takeDriver 47 = .ok (.aload_n 1, 1) := by decide +kernel
theorem dX2_takeDriver_48 : decode cX2_takeDriver 48 = .ok (.getfield 76, 3) := by decide +kernel
theorem dX2_takeDriver_51 : decode cX2_takeDriver 51 = .ok (.iload_n 3, 1) := by decide +kernel
theorem dX2_takeDriver_52 : decode cX2_takeDriver 52 = .ok (.aload_n 0, 1) := by decide +kernel
theorem dX2_takeDriver_53 : decode cX2_takeDriver 53 = .ok (.getfield 59, 3) := by decide +kernel
theorem dX2_takeDriver_56 : decode cX2_takeDriver 56 = .ok (.iastore, 1) := by decide +kernel
theorem dX2_takeDriver_57 : decode cX2_takeDriver 57 = .ok (.aload_n 0, 1) := by decide +kernel
theorem dX2_takeDriver_58 : decode cX2_takeDriver 58 = .ok (.invokevirtual 22, 3) := by decide +kernel
theorem dX2_takeDriver_61 : decode cX2_takeDriver 61 = .ok (.aload_n 0, 1) := by decide +kernel
theorem dX2_takeDriver_62 : decode cX2_takeDriver 62 = .ok (.ldc 79, 2) := by decide +kernel
theorem dX2_takeDriver_64 : decode cX2_takeDriver 64 = .ok (.invokevirtual 51, 3) := by decide +kernel
theorem dX2_takeDriver_67 : decode cX2_takeDriver 67 = .ok (.ifCond .eq 32, 3) := by decide +kernel
theorem dX2_takeDriver_70 : decode cX2_takeDriver 70 = .ok (.aload_n 0, 1) := by decide +kernel
theorem dX2_takeDriver_71 : decode cX2_takeDriver 71 = .ok (.invokevirtual 22, 3) := by decide +kernel
theorem dX2_takeDriver_74 : decode cX2_takeDriver 74 = .ok (.aload_n 0, 1) := by decide +kernel
theorem dX2_takeDriver_75 : decode cX2_takeDriver 75 = .ok (.iconst 0, 1) := by decide +kernel
theorem dX2_takeDriver_76 : decode cX2_takeDriver 76 = .ok (.iconst 2, 1) := by decide +kernel
theorem dX2_takeDriver_77 : decode cX2_takeDriver 77 = .ok (.invokevirtual 55, 3) := by decide +kernel
theorem dX2_takeDriver_80 : decode cX2_takeDriver 80 = .ok (.ifCond .ne 5, 3) := by decide +kernel
theorem dX2_takeDriver_83 : decode cX2_takeDriver 83 = .ok (.iconst 0, 1) := by decide +kernel
theorem dX2_takeDriver_84 : decode cX2_takeDriver 84 = .ok (.ireturn, 1) := by decide +kernel
theorem dX2_takeDriver_85 : decode cX2_takeDriver 85 = .ok (.aload_n 1, 1) := by decide +kernel
theorem dX2_takeDriver_86 : decode cX2_takeDriver 86 = .ok (.getfield 81, 3) := by decide +kernel
theorem dX2_takeDriver_89 : decode cX2_takeDriver 89 = .ok (.iload_n 3, 1) := by decide +kernel
theorem dX2_takeDriver_90 : decode cX2_takeDriver 90 = .ok (.aload_n 0, 1) := by decide +kernel
theorem dX2_takeDriver_91 : decode cX2_takeDriver 91 = .ok (.getfield 59, 3) := by decide +kernel
theorem dX2_takeDriver_94 : decode cX2_takeDriver 94 = .ok (.iastore, 1) := by decide +kernel
theorem dX2_takeDriver_95 : decode cX2_takeDriver 95 = .ok (.aload_n 0, 1) := by decide +kernel
theorem dX2_takeDriver_96 : decode cX2_takeDriver 96 = .ok (.invokevirtual 22, 3) := by decide +kernel
theorem dX2_takeDriver_99 : decode cX2_takeDriver 99 = .ok (.iconst 1, 1) := by decide +kernel
theorem dX2_takeDriver_100 : decode cX2_takeDriver 100 = .ok (.ireturn, 1) := by decide +kernel
theorem dX2_takeThing_0 : decode cX2_takeThing 0 = .ok (.aload_n 0, 1) := by decide +kernel
theorem dX2_takeThing_1 : decode cX2_takeThing 1 = .ok (.invokevirtual 22, 3) := by decide +kernel
theorem dX2_takeThing_4 : decode cX2_takeThing 4 = .ok (.aload_n 0, 1) := by decide +kernel
theorem dX2_takeThing_5 : decode cX2_takeThing 5 = .ok (.iconst 0, 1) := by decide +kernel
theorem dX2_takeThing_6 : decode cX2_takeThing 6 = .ok (.iconst 2, 1) := by decide +kernel
theorem dX2_takeThing_7 : decode cX2_takeThing 7 = .ok (.invokevirtual 55, 3) := by decide +kernel
theorem dX2_takeThing_10 : decode cX2_takeThing 10 = .ok (.ifCond .ne 5, 3) := by decide +kernel
theorem dX2_takeThing_13 : decode cX2_takeThing 13 = .ok (.iconst 0, 1) := by decide +kernel
theorem dX2_takeThing_14 : decode cX2_takeThing 14 = .ok (.ireturn, 1) := by decide +kernel
theorem dX2_takeThing_15 : decode cX2_takeThing 15 = .ok (.aload_n 0, 1) := by decide +kernel
theorem dX2_takeThing_16 : decode cX2_takeThing 16 = .ok (.getfield 59, 3) := by decide +kernel
theorem dX2_takeThing_19 : decode cX2_takeThing 19 = .ok (.istore_n 3, 1) := by decide +kernel
theorem dX2_takeThing_20 : decode cX2_takeThing 20 = .ok (.aload_n 0, 1) := by decide +kernel
theorem dX2_takeThing_21 : decode cX2_takeThing 21 = .ok (.invokevirtual 22, 3) := by decide +kernel
theorem dX2_takeThing_24 : decode cX2_takeThing 24 = .ok (.aload_n 0, 1) := by decide +kernel
theorem dX2_takeThing_25 : decode cX2_takeThing 25 = .ok (.iconst 0, 1) := by decide +kernel
theorem dX2_takeThing_26 : decode cX2_takeThing 26 = .ok (.bipush 19, 2) := by decide +kernel
theorem dX2_takeThing_28 : decode cX2_takeThing 28 = .ok (.invokevirtual 55, 3) := by decide +kernel
theorem dX2_takeThing_31 : decode cX2_takeThing 31 = .ok (.ifCond .ne 5, 3) := by decide +kernel
theorem dX2_takeThing_34 : decode cX2_takeThing 34 = .ok (.iconst 0, 1) := by decide +kernel
theorem dX2_takeThing_35 : decode cX2_takeThing 35 = .ok (.ireturn, 1) := by decide +kernel
theorem dX2_takeThing_36 : decode cX2_takeThing 36 = .ok (.aload_n 1, 1) := by decide +kernel
theorem dX2_takeThing_37 : decode cX2_takeThing 37 = .ok (.iload_n 3, 1) := by decide +kernel
theorem dX2_takeThing_38 : decode cX2_takeThing 38 = .ok (.aload_n 0, 1) := by decide +kernel
theorem dX2_takeThing_39 : decode cX2_takeThing 39 = .ok (.getfield 59, 3) := by decide +kernel
theorem dX2_takeThing_42 : decode cX2_takeThing 42 = .ok (.iload_n 2, 1) := by decide +kernel
theorem dX2_takeThing_43 : decode cX2_takeThing 43 = .ok (.invokevirtual 84, 3) := by decide +kernel
theorem dX2_takeThing_46 : decode cX2_takeThing 46 = .ok (.aload_n 0, 1) := by decide +kernel
theorem dX2_takeThing_47 : decode cX2_takeThing 47 = .ok (.invokevirtual 22, 3) := by decide +kernel
theorem dX2_takeThing_50 : decode cX2_takeThing 50 = .ok (.iconst 1, 1) := by decide +kernel
theorem dX2_takeThing_51 : decode cX2_takeThing 51 = .ok (.ireturn, 1) := by decide +kernel
theorem dX2_isNumber_0 : decode cX2_isNumber 0 = .ok (.aload_n 0, 1) := by decide +kernel
theorem dX2_isNumber_1 : decode cX2_isNumber 1 = .ok (.getfield 32, 3) := by decide +kernel
theorem dX2_isNumber_4 : decode cX2_isNumber 4 = .ok (.iconst 2, 1) := by decide +kernel
theorem dX2_isNumber_5 : decode cX2_isNumber 5 = .ok (.if_icmp .ne 23, 3) := by decide +kernel
theorem dX2_isNumber_8 : decode cX2_isNumber 8 = .ok (.aload_n 0, 1) := by decide +kernel
theorem dX2_isNumber_9 : decode cX2_isNumber 9 = .ok (.getfield 59, 3) := by decide +kernel
theorem dX2_isNumber_12 : decode cX2_isNumber 12 = .ok (.iload_n 1, 1) := by decide +kernel
theorem dX2_isNumber_13 : decode cX2_isNumber 13 = .ok (.if_icmp .lt 15, 3) := by decide +kernel
theorem dX2_isNumber_16 : decode cX2_isNumber 16 = .ok (.aload_n 0, 1) := by decide +kernel
theorem dX2_isNumber_17 : decode cX2_isNumber 17 = .ok (.getfield 59, 3) := by decide +kernel
theorem dX2_isNumber_20 : decode cX2_isNumber 20 = .ok (.iload_n 2, 1) := by decide +kernel
theorem dX2_isNumber_21 : decode cX2_isNumber 21 = .ok (.if_icmp .gt 7, 3) := by decide +kernel
theorem dX2_isNumber_24 : decode cX2_isNumber 24 = .ok (.iconst 1, 1) := by decide +kernel
theorem dX2_isNumber_25 : decode cX2_isNumber 25 = .ok (.goto 4, 3) := by decide +kernel
theorem dX2_isNumber_28 : decode cX2_isNumber 28 = .ok (.iconst 0, 1) := by decide +kernel
theorem dX2_isNumber_29 : decode cX2_isNumber 29 = .ok (.ireturn, 1) := by decide +kernel
theorem dX2_kindNamed_0 : decode cX2_kindNamed 0 = .ok (.aload_n 0, 1) := by decide +kernel
theorem dX2_kindNamed_1 : decode cX2_kindNamed 1 = .ok (.ldc 88, 2) := by decide +kernel
theorem dX2_kindNamed_3 : decode cX2_kindNamed 3 = .ok (.invokevirtual 51, 3) := by decide +kernel
theorem dX2_kindNamed_6 : decode cX2_kindNamed 6 = .ok (.ifCond .eq 5, 3) := by decide +kernel
theorem dX2_kindNamed_9 : decode cX2_kindNamed 9 = .ok (.iconst 0, 1) := by decide +kernel
theorem dX2_kindNamed_10 : decode cX2_kindNamed 10 = .ok (.ireturn, 1) := by decide +kernel
theorem dX2_kindNamed_11 : decode cX2_kindNamed 11 = .ok (.aload_n 0, 1) := by decide +kernel
theorem dX2_kindNamed_12 : decode cX2_kindNamed 12 = .ok (.ldc 90, 2) := by decide +kernel
theorem dX2_kindNamed_14 : decode cX2_kindNamed 14 = .ok (.invokevirtual 51, 3) := by decide +kernel
theorem dX2_kindNamed_17 : decode cX2_kindNamed 17 = .ok (.ifCond .eq 5, 3) := by decide +kernel
theorem dX2_kindNamed_20 : decode cX2_kindNamed 20 = .ok (.iconst 1, 1) := by decide +kernel
theorem dX2_kindNamed_21 : decode cX2_kindNamed 21 = .ok (.ireturn, 1) := by decide +kernel
theorem dX2_kindNamed_22 : decode cX2_kindNamed 22 = .ok (.aload_n 0, 1) := by decide +kernel
theorem dX2_kindNamed_23 : decode cX2_kindNamed 23 = .ok (.ldc 92, 2) := by decide +kernel
theorem dX2_kindNamed_25 : decode cX2_kindNamed 25 = .ok (.invokevirtual 51, 3) := by decide +kernel
theorem dX2_kindNamed_28 : decode cX2_kindNamed 28 = .ok (.ifCond .eq 5, 3) := by decide +kernel
theorem dX2_kindNamed_31 : decode cX2_kindNamed 31 = .ok (.iconst 2, 1) := by decide +kernel
theorem dX2_kindNamed_32 : decode cX2_kindNamed 32 = .ok (.ireturn, 1) := by decide +kernel
theorem dX2_kindNamed_33 : decode cX2_kindNamed 33 = .ok (.aload_n 0, 1) := by decide +kernel
theorem dX2_kindNamed_34 : decode cX2_kindNamed 34 = .ok (.ldc 94, 2) := by decide +kernel
theorem dX2_kindNamed_36 : decode cX2_kindNamed 36 = .ok (.invokevirtual 51, 3) := by decide +kernel
theorem dX2_kindNamed_39 : decode cX2_kindNamed 39 = .ok (.ifCond .eq 5, 3) := by decide +kernel
theorem dX2_kindNamed_42 : decode cX2_kindNamed 42 = .ok (.iconst 3, 1) := by decide +kernel
theorem dX2_kindNamed_43 : decode cX2_kindNamed 43 = .ok (.ireturn, 1) := by decide +kernel
theorem dX2_kindNamed_44 : decode cX2_kindNamed 44 = .ok (.aload_n 0, 1) := by decide +kernel
theorem dX2_kindNamed_45 : decode cX2_kindNamed 45 = .ok (.ldc 96, 2) := by decide +kernel
theorem dX2_kindNamed_47 : decode cX2_kindNamed 47 = .ok (.invokevirtual 51, 3) := by decide +kernel
theorem dX2_kindNamed_50 : decode cX2_kindNamed 50 = .ok (.ifCond .eq 5, 3) := by decide +kernel
theorem dX2_kindNamed_53 : decode cX2_kindNamed 53 = .ok (.iconst 4, 1) := by decide +kernel
theorem dX2_kindNamed_54 : decode cX2_kindNamed 54 = .ok (.ireturn, 1) := by decide +kernel
theorem dX2_kindNamed_55 : decode cX2_kindNamed 55 = .ok (.aload_n 0, 1) := by decide +kernel
theorem dX2_kindNamed_56 : decode cX2_kindNamed 56 = .ok (.ldc 98, 2) := by decide +kernel
theorem dX2_kindNamed_58 : decode cX2_kindNamed 58 = .ok (.invokevirtual 51, 3) := by decide +kernel
theorem dX2_kindNamed_61 : decode cX2_kindNamed 61 = .ok (.ifCond .eq 7, 3) := by decide +kernel
theorem dX2_kindNamed_64 : decode cX2_kindNamed 64 = .ok (.iconst 5, 1) := by decide +kernel
theorem dX2_kindNamed_65 : decode cX2_kindNamed 65 = .ok (.goto 4, 3) := by decide +kernel
theorem dX2_kindNamed_68 : decode cX2_kindNamed 68 = .ok (.iconst (-1), 1) := by decide +kernel
theorem dX2_kindNamed_69 : decode cX2_kindNamed 69 = .ok (.ireturn, 1) := by decide +kernel
theorem dX2_thingNamed_0 : decode cX2_thingNamed 0 = .ok (.aload_n 0, 1) := by decide +kernel
theorem dX2_thingNamed_1 : decode cX2_thingNamed 1 = .ok (.ldc 100, 2) := by decide +kernel
theorem dX2_thingNamed_3 : decode cX2_thingNamed 3 = .ok (.invokevirtual 51, 3) := by decide +kernel
theorem dX2_thingNamed_6 : decode cX2_thingNamed 6 = .ok (.ifCond .eq 5, 3) := by decide +kernel
theorem dX2_thingNamed_9 : decode cX2_thingNamed 9 = .ok (.iconst 0, 1) := by decide +kernel
theorem dX2_thingNamed_10 : decode cX2_thingNamed 10 = .ok (.ireturn, 1) := by decide +kernel
theorem dX2_thingNamed_11 : decode cX2_thingNamed 11 = .ok (.aload_n 0, 1) := by decide +kernel
theorem dX2_thingNamed_12 : decode cX2_thingNamed 12 = .ok (.ldc 102, 2) := by decide +kernel
theorem dX2_thingNamed_14 : decode cX2_thingNamed 14 = .ok (.invokevirtual 51, 3) := by decide +kernel
theorem dX2_thingNamed_17 : decode cX2_thingNamed 17 = .ok (.ifCond .eq 5, 3) := by decide +kernel
theorem dX2_thingNamed_20 : decode cX2_thingNamed 20 = .ok (.iconst 1, 1) := by decide +kernel
theorem dX2_thingNamed_21 : decode cX2_thingNamed 21 = .ok (.ireturn, 1) := by decide +kernel
theorem dX2_thingNamed_22 : decode cX2_thingNamed 22 = .ok (.aload_n 0, 1) := by decide +kernel
theorem dX2_thingNamed_23 : decode cX2_thingNamed 23 = .ok (.ldc 104, 2) := by decide +kernel
theorem dX2_thingNamed_25 : decode cX2_thingNamed 25 = .ok (.invokevirtual 51, 3) := by decide +kernel
theorem dX2_thingNamed_28 : decode cX2_thingNamed 28 = .ok (.ifCond .eq 5, 3) := by decide +kernel
theorem dX2_thingNamed_31 : decode cX2_thingNamed 31 = .ok (.iconst 2, 1) := by decide +kernel
theorem dX2_thingNamed_32 : decode cX2_thingNamed 32 = .ok (.ireturn, 1) := by decide +kernel
theorem dX2_thingNamed_33 : decode cX2_thingNamed 33 = .ok (.aload_n 0, 1) := by decide +kernel
theorem dX2_thingNamed_34 : decode cX2_thingNamed 34 = .ok (.ldc 106, 2) := by decide +kernel
theorem dX2_thingNamed_36 : decode cX2_thingNamed 36 = .ok (.invokevirtual 51, 3) := by decide +kernel
theorem dX2_thingNamed_39 : decode cX2_thingNamed 39 = .ok (.ifCond .eq 5, 3) := by decide +kernel
theorem dX2_thingNamed_42 : decode cX2_thingNamed 42 = .ok (.iconst 3, 1) := by decide +kernel
theorem dX2_thingNamed_43 : decode cX2_thingNamed 43 = .ok (.ireturn, 1) := by decide +kernel
theorem dX2_thingNamed_44 : decode cX2_thingNamed 44 = .ok (.aload_n 0, 1) := by decide +kernel
theorem dX2_thingNamed_45 : decode cX2_thingNamed 45 = .ok (.ldc 108, 2) := by decide +kernel
theorem dX2_thingNamed_47 : decode cX2_thingNamed 47 = .ok (.invokevirtual 51, 3) := by decide +kernel
theorem dX2_thingNamed_50 : decode cX2_thingNamed 50 = .ok (.ifCond .eq 7, 3) := by decide +kernel
theorem dX2_thingNamed_53 : decode cX2_thingNamed 53 = .ok (.iconst 4, 1) := by decide +kernel
theorem dX2_thingNamed_54 : decode cX2_thingNamed 54 = .ok (.goto 4, 3) := by decide +kernel
theorem dX2_thingNamed_57 : decode cX2_thingNamed 57 = .ok (.iconst (-1), 1) := by decide +kernel
theorem dX2_thingNamed_58 : decode cX2_thingNamed 58 = .ok (.ireturn, 1) := by decide +kernel
theorem dX2_isWord_0 : decode cX2_isWord 0 = .ok (.aload_n 0, 1) := by decide +kernel
theorem dX2_isWord_1 : decode cX2_isWord 1 = .ok (.getfield 32, 3) := by decide +kernel
theorem dX2_isWord_4 : decode cX2_isWord 4 = .ok (.iconst 1, 1) := by decide +kernel
theorem dX2_isWord_5 : decode cX2_isWord 5 = .ok (.if_icmp .ne 19, 3) := by decide +kernel
theorem dX2_isWord_8 : decode cX2_isWord 8 = .ok (.aload_n 0, 1) := by decide +kernel
theorem dX2_isWord_9 : decode cX2_isWord 9 = .ok (.getfield 19, 3) := by decide +kernel
theorem dX2_isWord_12 : decode cX2_isWord 12 = .ok (.aload_n 0, 1) := by decide +kernel
theorem dX2_isWord_13 : decode cX2_isWord 13 = .ok (.getfield 29, 3) := by decide +kernel
theorem dX2_isWord_16 : decode cX2_isWord 16 = .ok (.isub, 1) := by decide +kernel
theorem dX2_isWord_17 : decode cX2_isWord 17 = .ok (.aload_n 1, 1) := by decide +kernel
theorem dX2_isWord_18 : decode cX2_isWord 18 = .ok (.invokevirtual 110, 3) := by decide +kernel
theorem dX2_isWord_21 : decode cX2_isWord 21 = .ok (.if_icmp .eq 5, 3) := by decide +kernel
theorem dX2_isWord_24 : decode cX2_isWord 24 = .ok (.iconst 0, 1) := by decide +kernel
theorem dX2_isWord_25 : decode cX2_isWord 25 = .ok (.ireturn, 1) := by decide +kernel
theorem dX2_isWord_26 : decode cX2_isWord 26 = .ok (.iconst 0, 1) := by decide +kernel
theorem dX2_isWord_27 : decode cX2_isWord 27 = .ok (.istore_n 2, 1) := by decide +kernel
theorem dX2_isWord_28 : decode cX2_isWord 28 = .ok (.iload_n 2, 1) := by decide +kernel
theorem dX2_isWord_29 : decode cX2_isWord 29 = .ok (.aload_n 1, 1) := by decide +kernel
theorem dX2_isWord_30 : decode cX2_isWord 30 = .ok (.invokevirtual 110, 3) := by decide +kernel
theorem dX2_isWord_33 : decode cX2_isWord 33 = .ok (.if_icmp .ge 30, 3) := by decide +kernel
theorem dX2_isWord_36 : decode cX2_isWord 36 = .ok (.aload_n 0, 1) := by decide +kernel
theorem dX2_isWord_37 : decode cX2_isWord 37 = .ok (.getfield 9, 3) := by decide +kernel
theorem dX2_isWord_40 : decode cX2_isWord 40 = .ok (.aload_n 0, 1) := by decide +kernel
theorem dX2_isWord_41 : decode cX2_isWord 41 = .ok (.getfield 29, 3) := by decide +kernel
theorem dX2_isWord_44 : decode cX2_isWord 44 = .ok (.iload_n 2, 1) := by decide +kernel
theorem dX2_isWord_45 : decode cX2_isWord 45 = .ok (.iadd, 1) := by decide +kernel
theorem dX2_isWord_46 : decode cX2_isWord 46 = .ok (.iaload, 1) := by decide +kernel
theorem dX2_isWord_47 : decode cX2_isWord 47 = .ok (.aload_n 1, 1) := by decide +kernel
theorem dX2_isWord_48 : decode cX2_isWord 48 = .ok (.iload_n 2, 1) := by decide +kernel
theorem dX2_isWord_49 : decode cX2_isWord 49 = .ok (.invokevirtual 114, 3) := by decide +kernel
theorem dX2_isWord_52 : decode cX2_isWord 52 = .ok (.if_icmp .eq 5, 3) := by decide +kernel
theorem dX2_isWord_55 : decode cX2_isWord 55 = .ok (.iconst 0, 1) := by decide +kernel
theorem dX2_isWord_56 : decode cX2_isWord 56 = .ok (.ireturn, 1) := by decide +kernel
theorem dX2_isWord_57 : decode cX2_isWord 57 = .ok (.iinc 2 1, 3) := by decide +kernel
theorem dX2_isWord_60 : decode cX2_isWord 60 = .ok (.goto (-32), 3) := by decide +kernel
theorem dX2_isWord_63 : decode cX2_isWord 63 = .ok (.iconst 1, 1) := by decide +kernel
theorem dX2_isWord_64 : decode cX2_isWord 64 = .ok (.ireturn, 1) := by decide +kernel
theorem dX2_nextToken_0 : decode cX2_nextToken 0 = .ok (.aload_n 0, 1) := by decide +kernel
theorem dX2_nextToken_1 : decode cX2_nextToken 1 = .ok (.aload_n 0, 1) := by decide +kernel
theorem dX2_nextToken_2 : decode cX2_nextToken 2 = .ok (.getfield 19, 3) := by decide +kernel
theorem dX2_nextToken_5 : decode cX2_nextToken 5 = .ok (.putfield 29, 3) := by decide +kernel
theorem dX2_nextToken_8 : decode cX2_nextToken 8 = .ok (.aload_n 0, 1) := by decide +kernel
theorem dX2_nextToken_9 : decode cX2_nextToken 9 = .ok (.getfield 29, 3) := by decide +kernel
theorem dX2_nextToken_12 : decode cX2_nextToken 12 = .ok (.aload_n 0, 1) := by decide +kernel
theorem dX2_nextToken_13 : decode cX2_nextToken 13 = .ok (.getfield 15, 3) := by decide +kernel
theorem dX2_nextToken_16 : decode cX2_nextToken 16 = .ok (.if_icmp .ge 30, 3) := by decide +kernel
theorem dX2_nextToken_19 : decode cX2_nextToken 19 = .ok (.aload_n 0, 1) := by decide +kernel
theorem dX2_nextToken_20 : decode cX2_nextToken 20 = .ok (.getfield 9, 3) := by decide +kernel
theorem dX2_nextToken_23 : decode cX2_nextToken 23 = .ok (.aload_n 0, 1) := by decide +kernel
theorem dX2_nextToken_24 : decode cX2_nextToken 24 = .ok (.getfield 29, 3) := by decide +kernel
theorem dX2_nextToken_27 : decode cX2_nextToken 27 = .ok (.iaload, 1) := by decide +kernel
theorem dX2_nextToken_28 : decode cX2_nextToken 28 = .ok (.bipush 32, 2) := by decide +kernel
theorem dX2_nextToken_30 : decode cX2_nextToken 30 = .ok (.if_icmp .ne 16, 3) := by decide +kernel
theorem dX2_nextToken_33 : decode cX2_nextToken 33 = .ok (.aload_n 0, 1) := by decide +kernel
theorem dX2_nextToken_34 : decode cX2_nextToken 34 = .ok (.dup, 1) := by decide +kernel
theorem dX2_nextToken_35 : decode cX2_nextToken 35 = .ok (.getfield 29, 3) := by decide +kernel
theorem dX2_nextToken_38 : decode cX2_nextToken 38 = .ok (.iconst 1, 1) := by decide +kernel
theorem dX2_nextToken_39 : decode cX2_nextToken 39 = .ok (.iadd, 1) := by decide +kernel
theorem dX2_nextToken_40 : decode cX2_nextToken 40 = .ok (.putfield 29, 3) := by decide +kernel
theorem dX2_nextToken_43 : decode cX2_nextToken 43 = .ok (.goto (-35), 3) := by decide +kernel
theorem dX2_nextToken_46 : decode cX2_nextToken 46 = .ok (.aload_n 0, 1) := by decide +kernel
theorem dX2_nextToken_47 : decode cX2_nextToken 47 = .ok (.aload_n 0, 1) := by decide +kernel
theorem dX2_nextToken_48 : decode cX2_nextToken 48 = .ok (.getfield 29, 3) := by decide +kernel
theorem dX2_nextToken_51 : decode cX2_nextToken 51 = .ok (.putfield 19, 3) := by decide +kernel
theorem dX2_nextToken_54 : decode cX2_nextToken 54 = .ok (.aload_n 0, 1) := by decide +kernel
theorem dX2_nextToken_55 : decode cX2_nextToken 55 = .ok (.iconst 0, 1) := by decide +kernel
theorem dX2_nextToken_56 : decode cX2_nextToken 56 = .ok (.putfield 59, 3) := by decide +kernel
theorem dX2_nextToken_59 : decode cX2_nextToken 59 = .ok (.aload_n 0, 1) := by decide +kernel
theorem dX2_nextToken_60 : decode cX2_nextToken 60 = .ok (.getfield 29, 3) := by decide +kernel
theorem dX2_nextToken_63 : decode cX2_nextToken 63 = .ok (.aload_n 0, 1) := by decide +kernel
theorem dX2_nextToken_64 : decode cX2_nextToken 64 = .ok (.getfield 15, 3) := by decide +kernel
theorem dX2_nextToken_67 : decode cX2_nextToken 67 = .ok (.if_icmp .lt 11, 3) := by decide +kernel
theorem dX2_nextToken_70 : decode cX2_nextToken 70 = .ok (.aload_n 0, 1) := by decide +kernel
theorem dX2_nextToken_71 : decode cX2_nextToken 71 = .ok (.iconst 0, 1) := by decide +kernel
theorem dX2_nextToken_72 : decode cX2_nextToken 72 = .ok (.putfield 32, 3) := by decide +kernel
theorem dX2_nextToken_75 : decode cX2_nextToken 75 = .ok (.goto 122, 3) := by decide +kernel
theorem dX2_nextToken_78 : decode cX2_nextToken 78 = .ok (.aload_n 0, 1) := by decide +kernel
theorem dX2_nextToken_79 : decode cX2_nextToken 79 = .ok (.getfield 9, 3) := by decide +kernel
theorem dX2_nextToken_82 : decode cX2_nextToken 82 = .ok (.aload_n 0, 1) := by decide +kernel
theorem dX2_nextToken_83 : decode cX2_nextToken 83 = .ok (.getfield 29, 3) := by decide +kernel
theorem dX2_nextToken_86 : decode cX2_nextToken 86 = .ok (.iaload, 1) := by decide +kernel
theorem dX2_nextToken_87 : decode cX2_nextToken 87 = .ok (.invokestatic 118, 3) := by decide +kernel
theorem dX2_nextToken_90 : decode cX2_nextToken 90 = .ok (.ifCond .eq 47, 3) := by decide +kernel
theorem dX2_nextToken_93 : decode cX2_nextToken 93 = .ok (.aload_n 0, 1) := by decide +kernel
theorem dX2_nextToken_94 : decode cX2_nextToken 94 = .ok (.iconst 1, 1) := by decide +kernel
theorem dX2_nextToken_95 : decode cX2_nextToken 95 = .ok (.putfield 32, 3) := by decide +kernel
theorem dX2_nextToken_98 : decode cX2_nextToken 98 = .ok (.aload_n 0, 1) := by decide +kernel
theorem dX2_nextToken_99 : decode cX2_nextToken 99 = .ok (.getfield 19, 3) := by decide +kernel
theorem dX2_nextToken_102 : decode cX2_nextToken 102 = .ok (.aload_n 0, 1) := by decide +kernel
theorem dX2_nextToken_103 : decode cX2_nextToken 103 = .ok (.getfield 15, 3) := by decide +kernel
theorem dX2_nextToken_106 : decode cX2_nextToken 106 = .ok (.if_icmp .ge 91, 3) := by decide +kernel
theorem dX2_nextToken_109 : decode cX2_nextToken 109 = .ok (.aload_n 0, 1) := by decide +kernel
theorem dX2_nextToken_110 : decode cX2_nextToken 110 = .ok (.getfield 9, 3) := by decide +kernel
theorem dX2_nextToken_113 : decode cX2_nextToken 113 = .ok (.aload_n 0, 1) := by decide +kernel
theorem dX2_nextToken_114 : decode cX2_nextToken 114 = .ok (.getfield 19, 3) := by decide +kernel
theorem dX2_nextToken_117 : decode cX2_nextToken 117 = .ok (.iaload, 1) := by decide +kernel
theorem dX2_nextToken_118 : decode cX2_nextToken 118 = .ok (.invokestatic 118, 3) := by decide +kernel
theorem dX2_nextToken_121 : decode cX2_nextToken 121 = .ok (.ifCond .eq 76, 3) := by decide +kernel
theorem dX2_nextToken_124 : decode cX2_nextToken 124 = .ok (.aload_n 0, 1) := by decide +kernel
theorem dX2_nextToken_125 : decode cX2_nextToken 125 = .ok (.dup, 1) := by decide +kernel
theorem dX2_nextToken_126 : decode cX2_nextToken 126 = .ok (.getfield 19, 3) := by decide +kernel
theorem dX2_nextToken_129 : decode cX2_nextToken 129 = .ok (.iconst 1, 1) := by decide +kernel
theorem dX2_nextToken_130 : decode cX2_nextToken 130 = .ok (.iadd, 1) := by decide +kernel
theorem dX2_nextToken_131 : decode cX2_nextToken 131 = .ok (.putfield 19, 3) := by decide +kernel
theorem dX2_nextToken_134 : decode cX2_nextToken 134 = .ok (.goto (-36), 3) := by decide +kernel
theorem dX2_nextToken_137 : decode cX2_nextToken 137 = .ok (.aload_n 0, 1) := by decide +kernel
theorem dX2_nextToken_138 : decode cX2_nextToken 138 = .ok (.getfield 9, 3) := by decide +kernel
theorem dX2_nextToken_141 : decode cX2_nextToken 141 = .ok (.aload_n 0, 1) := by decide +kernel
theorem dX2_nextToken_142 : decode cX2_nextToken 142 = .ok (.getfield 29, 3) := by decide +kernel
theorem dX2_nextToken_145 : decode cX2_nextToken 145 = .ok (.iaload, 1) := by decide +kernel
theorem dX2_nextToken_146 : decode cX2_nextToken 146 = .ok (.invokestatic 122, 3) := by decide +kernel
theorem dX2_nextToken_149 : decode cX2_nextToken 149 = .ok (.ifCond .eq 15, 3) := by decide +kernel
theorem dX2_nextToken_152 : decode cX2_nextToken 152 = .ok (.aload_n 0, 1) := by decide +kernel
theorem dX2_nextToken_153 : decode cX2_nextToken 153 = .ok (.iconst 2, 1) := by decide +kernel
theorem dX2_nextToken_154 : decode cX2_nextToken 154 = .ok (.putfield 32, 3) := by decide +kernel
theorem dX2_nextToken_157 : decode cX2_nextToken 157 = .ok (.aload_n 0, 1) := by decide +kernel
theorem dX2_nextToken_158 : decode cX2_nextToken 158 = .ok (.invokevirtual 125, 3) := by decide +kernel
theorem dX2_nextToken_161 : decode cX2_nextToken 161 = .ok (.goto 36, 3) := by decide +kernel
theorem dX2_nextToken_164 : decode cX2_nextToken 164 = .ok (.aload_n 0, 1) := by decide +kernel
theorem dX2_nextToken_165 : decode cX2_nextToken 165 = .ok (.aload_n 0, 1) := by decide +kernel
theorem dX2_nextToken_166 : decode cX2_nextToken 166 = .ok (.getfield 9, 3) := by decide +kernel
theorem dX2_nextToken_169 : decode cX2_nextToken 169 = .ok (.aload_n 0, 1) := by decide +kernel
theorem dX2_nextToken_170 : decode cX2_nextToken 170 = .ok (.getfield 29, 3) := by decide +kernel
theorem dX2_nextToken_173 : decode cX2_nextToken 173 = .ok (.iaload, 1) := by decide +kernel
theorem dX2_nextToken_174 : decode cX2_nextToken 174 = .ok (.bipush 59, 2) := by decide +kernel
theorem dX2_nextToken_176 : decode cX2_nextToken 176 = .ok (.if_icmp .ne 7, 3) := by decide +kernel
theorem dX2_nextToken_179 : decode cX2_nextToken 179 = .ok (.iconst 3, 1) := by decide +kernel
theorem dX2_nextToken_180 : decode cX2_nextToken 180 = .ok (.goto 4, 3) := by decide +kernel
theorem dX2_nextToken_183 : decode cX2_nextToken 183 = .ok (.iconst 4, 1) := by decide +kernel
theorem dX2_nextToken_184 : decode cX2_nextToken 184 = .ok (.putfield 32, 3) := by decide +kernel
theorem dX2_nextToken_187 : decode cX2_nextToken 187 = .ok (.aload_n 0, 1) := by decide +kernel
theorem dX2_nextToken_188 : decode cX2_nextToken 188 = .ok (.aload_n 0, 1) := by decide +kernel
theorem dX2_nextToken_189 : decode cX2_nextToken 189 = .ok (.getfield 29, 3) := by decide +kernel
theorem dX2_nextToken_192 : decode cX2_nextToken 192 = .ok (.iconst 1, 1) := by decide +kernel
theorem dX2_nextToken_193 : decode cX2_nextToken 193 = .ok (.iadd, 1) := by decide +kernel
theorem dX2_nextToken_194 : decode cX2_nextToken 194 = .ok (.putfield 19, 3) := by decide +kernel
theorem dX2_nextToken_197 : decode cX2_nextToken 197 = .ok (.return_, 1) := by decide +kernel
theorem dX2_readNumber_0 : decode cX2_readNumber 0 = .ok (.aload_n 0, 1) := by decide +kernel
theorem dX2_readNumber_1 : decode cX2_readNumber 1 = .ok (.getfield 19, 3) := by decide +kernel
theorem dX2_readNumber_4 : decode cX2_readNumber 4 = .ok (.aload_n 0, 1) := by decide +kernel
theorem dX2_readNumber_5 : decode cX2_readNumber 5 = .ok (.getfield 15, 3) := by decide +kernel
theorem dX2_readNumber_8 : decode cX2_readNumber 8 = .ok (.if_icmp .ge 61, 3) := by decide +kernel
theorem dX2_readNumber_11 : decode cX2_readNumber 11 = .ok (.aload_n 0, 1) := by decide +kernel
theorem dX2_readNumber_12 : decode cX2_readNumber 12 = .ok (.getfield 9, 3) := by decide +kernel
theorem dX2_readNumber_15 : decode cX2_readNumber 15 = .ok (.aload_n 0, 1) := by decide +kernel
theorem dX2_readNumber_16 : decode cX2_readNumber 16 = .ok (.getfield 19, 3) := by decide +kernel
theorem dX2_readNumber_19 : decode cX2_readNumber 19 = .ok (.iaload, 1) := by decide +kernel
theorem dX2_readNumber_20 : decode cX2_readNumber 20 = .ok (.invokestatic 122, 3) := by decide +kernel
theorem dX2_readNumber_23 : decode cX2_readNumber 23 = .ok (.ifCond .eq 46, 3) := by decide +kernel
theorem dX2_readNumber_26 : decode cX2_readNumber 26 = .ok (.aload_n 0, 1) := by decide +kernel
theorem dX2_readNumber_27 : decode cX2_readNumber 27 = .ok (.aload_n 0, 1) := by decide +kernel
theorem dX2_readNumber_28 : decode cX2_readNumber 28 = .ok (.getfield 59, 3) := by decide +kernel
theorem dX2_readNumber_31 : decode cX2_readNumber 31 = .ok (.bipush 10, 2) := by decide +kernel
theorem dX2_readNumber_33 : decode cX2_readNumber 33 = .ok (.imul, 1) := by decide +kernel
theorem dX2_readNumber_34 : decode cX2_readNumber 34 = .ok (.aload_n 0, 1) := by decide +kernel
theorem dX2_readNumber_35 : decode cX2_readNumber 35 = .ok (.getfield 9, 3) := by decide +kernel
theorem dX2_readNumber_38 : decode cX2_readNumber 38 = .ok (.aload_n 0, 1) := by decide +kernel
theorem dX2_readNumber_39 : decode cX2_readNumber 39 = .ok (.getfield 19, 3) := by decide +kernel
theorem dX2_readNumber_42 : decode cX2_readNumber 42 = .ok (.iaload, 1) := by decide +kernel
theorem dX2_readNumber_43 : decode cX2_readNumber 43 = .ok (.iadd, 1) := by decide +kernel
theorem dX2_readNumber_44 : decode cX2_readNumber 44 = .ok (.bipush 48, 2) := by decide +kernel
theorem dX2_readNumber_46 : decode cX2_readNumber 46 = .ok (.isub, 1) := by decide +kernel
theorem dX2_readNumber_47 : decode cX2_readNumber 47 = .ok (.sipush 1000, 3) := by decide +kernel
theorem dX2_readNumber_50 : decode cX2_readNumber 50 = .ok (.invokestatic 128, 3) := by decide +kernel
theorem dX2_readNumber_53 : decode cX2_readNumber 53 = .ok (.putfield 59, 3) := by decide +kernel
theorem dX2_readNumber_56 : decode cX2_readNumber 56 = .ok (.aload_n 0, 1) := by decide +kernel
theorem dX2_readNumber_57 : decode cX2_readNumber 57 = .ok (.dup, 1) := by decide +kernel
theorem dX2_readNumber_58 : decode cX2_readNumber 58 = .ok (.getfield 19, 3) := by decide +kernel
theorem dX2_readNumber_61 : decode cX2_readNumber 61 = .ok (.iconst 1, 1) := by decide +kernel
theorem dX2_readNumber_62 : decode cX2_readNumber 62 = .ok (.iadd, 1) := by decide +kernel
theorem dX2_readNumber_63 : decode cX2_readNumber 63 = .ok (.putfield 19, 3) := by decide +kernel
theorem dX2_readNumber_66 : decode cX2_readNumber 66 = .ok (.goto (-66), 3) := by decide +kernel
theorem dX2_readNumber_69 : decode cX2_readNumber 69 = .ok (.return_, 1) := by decide +kernel
theorem dX2_isLetter_0 : decode cX2_isLetter 0 = .ok (.iload_n 0, 1) := by decide +kernel
theorem dX2_isLetter_1 : decode cX2_isLetter 1 = .ok (.bipush 97, 2) := by decide +kernel
theorem dX2_isLetter_3 : decode cX2_isLetter 3 = .ok (.if_icmp .lt 13, 3) := by decide +kernel
theorem dX2_isLetter_6 : decode cX2_isLetter 6 = .ok (.iload_n 0, 1) := by decide +kernel
theorem dX2_isLetter_7 : decode cX2_isLetter 7 = .ok (.bipush 122, 2) := by decide +kernel
theorem dX2_isLetter_9 : decode cX2_isLetter 9 = .ok (.if_icmp .gt 7, 3) := by decide +kernel
theorem dX2_isLetter_12 : decode cX2_isLetter 12 = .ok (.iconst 1, 1) := by decide +kernel
theorem dX2_isLetter_13 : decode cX2_isLetter 13 = .ok (.goto 4, 3) := by decide +kernel
theorem dX2_isLetter_16 : decode cX2_isLetter 16 = .ok (.iconst 0, 1) := by decide +kernel
theorem dX2_isLetter_17 : decode cX2_isLetter 17 = .ok (.ireturn, 1) := by decide +kernel
theorem dX2_isDigit_0 : decode cX2_isDigit 0 = .ok (.iload_n 0, 1) := by decide +kernel
theorem dX2_isDigit_1 : decode cX2_isDigit 1 = .ok (.bipush 48, 2) := by decide +kernel
theorem dX2_isDigit_3 : decode cX2_isDigit 3 = .ok (.if_icmp .lt 13, 3) := by decide +kernel
theorem dX2_isDigit_6 : decode cX2_isDigit 6 = .ok (.iload_n 0, 1) := by decide +kernel
theorem dX2_isDigit_7 : decode cX2_isDigit 7 = .ok (.bipush 57, 2) := by decide +kernel
theorem dX2_isDigit_9 : decode cX2_isDigit 9 = .ok (.if_icmp .gt 7, 3) := by decide +kernel
theorem dX2_isDigit_12 : decode cX2_isDigit 12 = .ok (.iconst 1, 1) := by decide +kernel
theorem dX2_isDigit_13 : decode cX2_isDigit 13 = .ok (.goto 4, 3) := by decide +kernel
theorem dX2_isDigit_16 : decode cX2_isDigit 16 = .ok (.iconst 0, 1) := by decide +kernel
theorem dX2_isDigit_17 : decode cX2_isDigit 17 = .ok (.ireturn, 1) := by decide +kernel
theorem dX3_init_0 : decode cX3_init 0 = .ok (.aload_n 0, 1) := by decide +kernel
theorem dX3_init_1 : decode cX3_init 1 = .ok (.invokespecial 3, 3) := by decide +kernel
theorem dX3_init_4 : decode cX3_init 4 = .ok (.aload_n 0, 1) := by decide +kernel
theorem dX3_init_5 : decode cX3_init 5 = .ok (.iconst 0, 1) := by decide +kernel
theorem dX3_init_6 : decode cX3_init 6 = .ok (.putfield 9, 3) := by decide +kernel
theorem dX3_init_9 : decode cX3_init 9 = .ok (.aload_n 0, 1) := by decide +kernel
theorem dX3_init_10 : decode cX3_init 10 = .ok (.iconst 3, 1) := by decide +kernel
theorem dX3_init_11 : decode cX3_init 11 = .ok (.putfield 15, 3) := by decide +kernel
theorem dX3_init_14 : decode cX3_init 14 = .ok (.aload_n 0, 1) := by decide +kernel
theorem dX3_init_15 : decode cX3_init 15 = .ok (.iconst 0, 1) := by decide +kernel
theorem dX3_init_16 : decode cX3_init 16 = .ok (.putfield 18, 3) := by decide +kernel
theorem dX3_init_19 : decode cX3_init 19 = .ok (.aload_n 0, 1) := by decide +kernel
theorem dX3_init_20 : decode cX3_init 20 = .ok (.bipush 60, 2) := by decide +kernel
theorem dX3_init_22 : decode cX3_init 22 = .ok (.newarray .int, 2) := by decide +kernel
theorem dX3_init_24 : decode cX3_init 24 = .ok (.putfield 21, 3) := by decide +kernel
theorem dX3_init_27 : decode cX3_init 27 = .ok (.aload_n 0, 1) := by decide +kernel
theorem dX3_init_28 : decode cX3_init 28 = .ok (.bipush 60, 2) := by decide +kernel
theorem dX3_init_30 : decode cX3_init 30 = .ok (.newarray .int, 2) := by decide +kernel
theorem dX3_init_32 : decode cX3_init 32 = .ok (.putfield 25, 3) := by decide +kernel
theorem dX3_init_35 : decode cX3_init 35 = .ok (.aload_n 0, 1) := by decide +kernel
theorem dX3_init_36 : decode cX3_init 36 = .ok (.bipush 8, 2) := by decide +kernel
theorem dX3_init_38 : decode cX3_init 38 = .ok (.newarray .int, 2) := by decide +kernel
theorem dX3_init_40 : decode cX3_init 40 = .ok (.putfield 28, 3) := by decide +kernel
theorem dX3_init_43 : decode cX3_init 43 = .ok (.aload_n 0, 1) := by decide +kernel
theorem dX3_init_44 : decode cX3_init 44 = .ok (.bipush 8, 2) := by decide +kernel
theorem dX3_init_46 : decode cX3_init 46 = .ok (.newarray .int, 2) := by decide +kernel
theorem dX3_init_48 : decode cX3_init 48 = .ok (.putfield 31, 3) := by decide +kernel
theorem dX3_init_51 : decode cX3_init 51 = .ok (.aload_n 0, 1) := by decide +kernel
theorem dX3_init_52 : decode cX3_init 52 = .ok (.bipush 8, 2) := by decide +kernel
theorem dX3_init_54 : decode cX3_init 54 = .ok (.newarray .int, 2) := by decide +kernel
theorem dX3_init_56 : decode cX3_init 56 = .ok (.putfield 34, 3) := by decide +kernel
theorem dX3_init_59 : decode cX3_init 59 = .ok (.return_, 1) := by decide +kernel
theorem dX3_becomeLike_0 : decode cX3_becomeLike 0 = .ok (.aload_n 0, 1) := by decide +kernel
theorem dX3_becomeLike_1 : decode cX3_becomeLike 1 = .ok (.aload_n 1, 1) := by decide +kernel
theorem dX3_becomeLike_2 : decode cX3_becomeLike 2 = .ok (.getfield 9, 3) := by decide +kernel
theorem dX3_becomeLike_5 : decode cX3_becomeLike 5 = .ok (.putfield 9, 3) := by decide +kernel
theorem dX3_becomeLike_8 : decode cX3_becomeLike 8 = .ok (.aload_n 0, 1) := by decide +kernel
theorem dX3_becomeLike_9 : decode cX3_becomeLike 9 = .ok (.aload_n 1, 1) := by decide +kernel
theorem dX3_becomeLike_10 : decode cX3_becomeLike 10 = .ok (.getfield 15, 3) := by decide +kernel
theorem dX3_becomeLike_13 : decode cX3_becomeLike 13 = .ok (.putfield 15, 3) := by decide +kernel
theorem dX3_becomeLike_16 : decode cX3_becomeLike 16 = .ok (.aload_n 0, 1) := by decide +kernel
theorem dX3_becomeLike_17 : decode cX3_becomeLike 17 = .ok (.aload_n 1, 1) := by decide +kernel
theorem dX3_becomeLike_18 : decode cX3_becomeLike 18 = .ok (.getfield 18, 3) := by decide +kernel
theorem dX3_becomeLike_21 : decode cX3_becomeLike 21 = .ok (.putfield 18, 3) := by decide +kernel
theorem dX3_becomeLike_24 : decode cX3_becomeLike 24 = .ok (.aload_n 1, 1) := by decide +kernel
theorem dX3_becomeLike_25 : decode cX3_becomeLike 25 = .ok (.getfield 21, 3) := by decide +kernel
theorem dX3_becomeLike_28 : decode cX3_becomeLike 28 = .ok (.iconst 0, 1) := by decide +kernel
theorem dX3_becomeLike_29 : decode cX3_becomeLike 29 = .ok (.aload_n 0, 1) := by decide +kernel
theorem dX3_becomeLike_30 : decode cX3_becomeLike 30 = .ok (.getfield 21, 3) := by decide +kernel
theorem dX3_becomeLike_33 : decode cX3_becomeLike 33 = .ok (.iconst 0, 1) := by decide +kernel
theorem dX3_becomeLike_34 : decode cX3_becomeLike 34 = .ok (.bipush 60, 2) := by decide +kernel
theorem dX3_becomeLike_36 : decode cX3_becomeLike 36 = .ok (.invokestatic 37, 3) := by decide +kernel
theorem dX3_becomeLike_39 : decode cX3_becomeLike 39 = .ok (.aload_n 1, 1) := by decide +kernel
theorem dX3_becomeLike_40 : decode cX3_becomeLike 40 = .ok (.getfield 25, 3) := by decide +kernel
theorem dX3_becomeLike_43 : decode cX3_becomeLike 43 = .ok (.iconst 0, 1) := by decide +kernel
theorem dX3_becomeLike_44 : decode cX3_becomeLike 44 = .ok (.aload_n 0, 1) := by decide +kernel
theorem dX3_becomeLike_45 : decode cX3_becomeLike 45 = .ok (.getfield 25, 3) := by decide +kernel
theorem dX3_becomeLike_48 : decode cX3_becomeLike 48 = .ok (.iconst 0, 1) := by decide +kernel
theorem dX3_becomeLike_49 : decode cX3_becomeLike 49 = .ok (.bipush 60, 2) := by decide +kernel
theorem dX3_becomeLike_51 : decode cX3_becomeLike 51 = .ok (.invokestatic 37, 3) := by decide +kernel
theorem dX3_becomeLike_54 : decode cX3_becomeLike 54 = .ok (.aload_n 1, 1) := by decide +kernel
theorem dX3_becomeLike_55 : decode cX3_becomeLike 55 = .ok (.getfield 28, 3) := by decide +kernel
theorem dX3_becomeLike_58 : decode cX3_becomeLike 58 = .ok (.iconst 0, 1) := by decide +kernel
theorem dX3_becomeLike_59 : decode cX3_becomeLike 59 = .ok (.aload_n 0, 1) := by decide +kernel
theorem dX3_becomeLike_60 : decode cX3_becomeLike 60 = .ok (.getfield 28, 3) := by decide +kernel
theorem dX3_becomeLike_63 : decode cX3_becomeLike 63 = .ok (.iconst 0, 1) := by decide +kernel
theorem dX3_becomeLike_64 : decode cX3_becomeLike 64 = .ok (.bipush 8, 2) := by decide +kernel
theorem dX3_becomeLike_66 : decode cX3_becomeLike 66 = .ok (.invokestatic 37, 3) := by decide +kernel
theorem dX3_becomeLike_69 : decode cX3_becomeLike 69 = .ok (.aload_n 1, 1) := by decide +kernel
theorem dX3_becomeLike_70 : decode cX3_becomeLike 70 = .ok (.getfield 31, 3) := by decide +kernel
theorem dX3_becomeLike_73 : decode cX3_becomeLike 73 = .ok (.iconst 0, 1) := by decide +kernel
theorem dX3_becomeLike_74 : decode cX3_becomeLike 74 = .ok (.aload_n 0, 1) := by decide +kernel
theorem dX3_becomeLike_75 : decode cX3_becomeLike 75 = .ok (.getfield 31, 3) := by decide +kernel
theorem dX3_becomeLike_78 : decode cX3_becomeLike 78 = .ok (.iconst 0, 1) := by decide +kernel
theorem dX3_becomeLike_79 : decode cX3_becomeLike 79 = .ok (.bipush 8, 2) := by decide +kernel
theorem dX3_becomeLike_81 : decode cX3_becomeLike 81 = .ok (.invokestatic 37, 3) := by decide +kernel
theorem dX3_becomeLike_84 : decode cX3_becomeLike 84 = .ok (.aload_n 1, 1) := by decide +kernel
theorem dX3_becomeLike_85 : decode cX3_becomeLike 85 = .ok (.getfield 34, 3) := by decide +kernel
theorem dX3_becomeLike_88 : decode cX3_becomeLike 88 = .ok (.iconst 0, 1) := by decide +kernel
theorem dX3_becomeLike_89 : decode cX3_becomeLike 89 = .ok (.aload_n 0, 1) := by decide +kernel
theorem dX3_becomeLike_90 : decode cX3_becomeLike 90 = .ok (.getfield 34, 3) := by decide +kernel
theorem dX3_becomeLike_93 : decode cX3_becomeLike 93 = .ok (.iconst 0, 1) := by decide +kernel
theorem dX3_becomeLike_94 : decode cX3_becomeLike 94 = .ok (.bipush 8, 2) := by decide +kernel
theorem dX3_becomeLike_96 : decode cX3_becomeLike 96 = .ok (.invokestatic 37, 3) := by decide +kernel
theorem dX3_becomeLike_99 : decode cX3_becomeLike 99 = .ok (.return_, 1) := by decide +kernel
theorem dX3_hasDriver_0 : decode cX3_hasDriver 0 = .ok (.iload_n 1, 1) := by decide +kernel
theorem dX3_hasDriver_1 : decode cX3_hasDriver 1 = .ok (.ifCond .lt 15, 3) := by decide +kernel
theorem dX3_hasDriver_4 : decode cX3_hasDriver 4 = .ok (.iload_n 1, 1) := by decide +kernel
theorem dX3_hasDriver_5 : decode cX3_hasDriver 5 = .ok (.aload_n 0, 1) := by decide +kernel
theorem dX3_hasDriver_6 : decode cX3_hasDriver 6 = .ok (.getfield 18, 3) := by decide +kernel
theorem dX3_hasDriver_9 : decode cX3_hasDriver 9 = .ok (.if_icmp .ge 7, 3) := by decide +kernel
theorem dX3_hasDriver_12 : decode cX3_hasDriver 12 = .ok (.iconst 1, 1) := by decide +kernel
theorem dX3_hasDriver_13 : decode cX3_hasDriver 13 = .ok (.goto 4, 3) := by decide +kernel
theorem dX3_hasDriver_16 : decode cX3_hasDriver 16 = .ok (.iconst 0, 1) := by decide +kernel
theorem dX3_hasDriver_17 : decode cX3_hasDriver 17 = .ok (.ireturn, 1) := by decide +kernel
theorem dX3_addDriver_0 : decode cX3_addDriver 0 = .ok (.aload_n 0, 1) := by decide +kernel
theorem dX3_addDriver_1 : decode cX3_addDriver 1 = .ok (.getfield 18, 3) := by decide +kernel
theorem dX3_addDriver_4 : decode cX3_addDriver 4 = .ok (.istore_n 2, 1) := by decide +kernel
theorem dX3_addDriver_5 : decode cX3_addDriver 5 = .ok (.iload_n 2, 1) := by decide +kernel
theorem dX3_addDriver_6 : decode cX3_addDriver 6 = .ok (.bipush 8, 2) := by decide +kernel
theorem dX3_addDriver_8 : decode cX3_addDriver 8 = .ok (.if_icmp .ge 32, 3) := by decide +kernel
theorem dX3_addDriver_11 : decode cX3_addDriver 11 = .ok (.aload_n 0, 1) := by decide +kernel
theorem dX3_addDriver_12 : decode cX3_addDriver 12 = .ok (.getfield 28, 3) := by decide +kernel
theorem dX3_addDriver_15 : decode cX3_addDriver 15 = .ok (.iload_n 2, 1) := by decide +kernel
theorem dX3_addDriver_16 : decode cX3_addDriver 16 = .ok (.iload_n 1, 1) := by decide +kernel
theorem dX3_addDriver_17 : decode cX3_addDriver 17 = .ok (.iastore, 1) := by decide +kernel
theorem dX3_addDriver_18 : decode cX3_addDriver 18 = .ok (.aload_n 0, 1) := by decide +kernel
theorem dX3_addDriver_19 : decode cX3_addDriver 19 = .ok (.getfield 31, 3) := by decide +kernel
theorem dX3_addDriver_22 : decode cX3_addDriver 22 = .ok (.iload_n 2, 1) := by decide +kernel
theorem dX3_addDriver_23 : decode cX3_addDriver 23 = .ok (.bipush 40, 2) := by decide +kernel
theorem dX3_addDriver_25 : decode cX3_addDriver 25 = .ok (.iastore, 1) := by decide +kernel
theorem dX3_addDriver_26 : decode cX3_addDriver 26 = .ok (.aload_n 0, 1) := by decide +kernel
theorem dX3_addDriver_27 : decode cX3_addDriver 27 = .ok (.getfield 34, 3) := by decide +kernel
theorem dX3_addDriver_30 : decode cX3_addDriver 30 = .ok (.iload_n 2, 1) := by decide +kernel
theorem dX3_addDriver_31 : decode cX3_addDriver 31 = .ok (.iconst 0, 1) := by decide +kernel
theorem dX3_addDriver_32 : decode cX3_addDriver 32 = .ok (.iastore, 1) := by decide +kernel
theorem dX3_addDriver_33 : decode cX3_addDriver 33 = .ok (.aload_n 0, 1) := by decide +kernel
theorem dX3_addDriver_34 : decode cX3_addDriver 34 = .ok (.iload_n 2, 1) := by decide +kernel
theorem dX3_addDriver_35 : decode cX3_addDriver 35 = .ok (.iconst 1, 1) := by decide +kernel
theorem dX3_addDriver_36 : decode cX3_addDriver 36 = .ok (.iadd, 1) := by decide +kernel
theorem dX3_addDriver_37 : decode cX3_addDriver 37 = .ok (.putfield 18, 3) := by decide +kernel
theorem dX3_addDriver_40 : decode cX3_addDriver 40 = .ok (.iload_n 2, 1) := by decide +kernel
theorem dX3_addDriver_41 : decode cX3_addDriver 41 = .ok (.ireturn, 1) := by decide +kernel
theorem dX3_lay_0 : decode cX3_lay 0 = .ok (.iload_n 1, 1) := by decide +kernel
theorem dX3_lay_1 : decode cX3_lay 1 = .ok (.iload_n 2, 1) := by decide +kernel
theorem dX3_lay_2 : decode cX3_lay 2 = .ok (.invokestatic 43, 3) := by decide +kernel
theorem dX3_lay_5 : decode cX3_lay 5 = .ok (.istore 4, 2) := by decide +kernel
theorem dX3_lay_7 : decode cX3_lay 7 = .ok (.aload_n 0, 1) := by decide +kernel
theorem dX3_lay_8 : decode cX3_lay 8 = .ok (.getfield 21, 3) := by decide +kernel
theorem dX3_lay_11 : decode cX3_lay 11 = .ok (.iload 4, 2) := by decide +kernel
theorem dX3_lay_13 : decode cX3_lay 13 = .ok (.iload_n 3, 1) := by decide +kernel
theorem dX3_lay_14 : decode cX3_lay 14 = .ok (.iastore, 1) := by decide +kernel
theorem dX3_lay_15 : decode cX3_lay 15 = .ok (.aload_n 0, 1) := by decide +kernel
theorem dX3_lay_16 : decode cX3_lay 16 = .ok (.getfield 25, 3) := by decide +kernel
theorem dX3_lay_19 : decode cX3_lay 19 = .ok (.iload 4, 2) := by decide +kernel
theorem dX3_lay_21 : decode cX3_lay 21 = .ok (.iconst 0, 1) := by decide +kernel
theorem dX3_lay_22 : decode cX3_lay 22 = .ok (.iastore, 1) := by decide +kernel
theorem dX3_lay_23 : decode cX3_lay 23 = .ok (.return_, 1) := by decide +kernel
theorem dX3_stretchesWithThing_0 : decode cX3_stretchesWithThing 0 = .ok (.iconst 0, 1) := by decide +kernel
theorem dX3_stretchesWithThing_1 : decode cX3_stretchesWithThing 1 = .ok (.istore_n 2, 1) := by decide +kernel
theorem dX3_stretchesWithThing_2 : decode cX3_stretchesWithThing 2 = .ok (.iconst 0, 1) := by decide +kernel
theorem dX3_stretchesWithThing_3 : decode cX3_stretchesWithThing 3 = .ok (.istore_n 3, 1) := by decide +kernel
theorem dX3_stretchesWithThing_4 : decode cX3_stretchesWithThing 4 = .ok (.iload_n 3, 1) := by decide +kernel
theorem dX3_stretchesWithThing_5 : decode cX3_stretchesWithThing 5 = .ok (.bipush 20, 2) := by decide +kernel
theorem dX3_stretchesWithThing_7 : decode cX3_stretchesWithThing 7 = .ok (.if_icmp .ge 28, 3) := by decide +kernel
theorem dX3_stretchesWithThing_10 : decode cX3_stretchesWithThing 10 = .ok (.aload_n 0, 1) := by decide +kernel
theorem dX3_stretchesWithThing_11 : decode cX3_stretchesWithThing 11 = .ok (.getfield 21, 3) := by decide +kernel
theorem dX3_stretchesWithThing_14 : decode cX3_stretchesWithThing 14 = .ok (.iload_n 1, 1) := by decide +kernel
theorem dX3_stretchesWithThing_15 : decode cX3_stretchesWithThing 15 = .ok (.iload_n 3, 1) := by decide +kernel
theorem dX3_stretchesWithThing_16 : decode cX3_stretchesWithThing 16 = .ok (.invokestatic 43, 3) := by decide +kernel
theorem dX3_stretchesWithThing_19 : decode cX3_stretchesWithThing 19 = .ok (.iaload, 1) := by decide +kernel
theorem dX3_stretchesWithThing_20 : decode cX3_stretchesWithThing 20 = .ok (.ifCond .eq 9, 3) := by decide +kernel
theorem dX3_stretchesWithThing_23 : decode cX3_stretchesWithThing 23 = .ok (.iload_n 2, 1) := by decide +kernel
theorem dX3_stretchesWithThing_24 : decode cX3_stretchesWithThing 24 = .ok (.iconst 1, 1) := by decide +kernel
theorem dX3_stretchesWithThing_25 : decode cX3_stretchesWithThing 25 = .ok (.iload_n 3, 1) := by decide +kernel
theorem dX3_stretchesWithThing_26 : decode cX3_stretchesWithThing 26 = .ok (.ishl, 1) := by decide +kernel
theorem dX3_stretchesWithThing_27 : decode cX3_stretchesWithThing 27 = .ok (.ior, 1) := by decide +kernel
theorem dX3_stretchesWithThing_28 : decode cX3_stretchesWithThing 28 = .ok (.istore_n 2, 1) := by decide +kernel
theorem dX3_stretchesWithThing_29 : decode cX3_stretchesWithThing 29 = .ok (.iinc 3 1, 3) := by decide +kernel
theorem dX3_stretchesWithThing_32 : decode cX3_stretchesWithThing 32 = .ok (.goto (-28), 3) := by decide +kernel
theorem dX3_stretchesWithThing_35 : decode cX3_stretchesWithThing 35 = .ok (.iload_n 2, 1) := by decide +kernel
theorem dX3_stretchesWithThing_36 : decode cX3_stretchesWithThing 36 = .ok (.ireturn, 1) := by decide +kernel
theorem dX3_bumpsIn_0 : decode cX3_bumpsIn 0 = .ok (.iconst 0, 1) := by decide +kernel
theorem dX3_bumpsIn_1 : decode cX3_bumpsIn 1 = .ok (.istore_n 2, 1) := by decide +kernel
theorem dX3_bumpsIn_2 : decode cX3_bumpsIn 2 = .ok (.iconst 0, 1) := by decide +kernel
theorem dX3_bumpsIn_3 : decode cX3_bumpsIn 3 = .ok (.istore_n 3, 1) := by decide +kernel
theorem dX3_bumpsIn_4 : decode cX3_bumpsIn 4 = .ok (.iload_n 3, 1) := by decide +kernel
theorem dX3_bumpsIn_5 : decode cX3_bumpsIn 5 = .ok (.bipush 20, 2) := by decide +kernel
theorem dX3_bumpsIn_7 : decode cX3_bumpsIn 7 = .ok (.if_icmp .ge 26, 3) := by decide +kernel
theorem dX3_bumpsIn_10 : decode cX3_bumpsIn 10 = .ok (.aload_n 0, 1) := by decide +kernel
theorem dX3_bumpsIn_11 : decode cX3_bumpsIn 11 = .ok (.getfield 21, 3) := by decide +kernel
theorem dX3_bumpsIn_14 : decode cX3_bumpsIn 14 = .ok (.iload_n 1, 1) := by decide +kernel
theorem dX3_bumpsIn_15 : decode cX3_bumpsIn 15 = .ok (.iload_n 3, 1) := by decide +kernel
theorem dX3_bumpsIn_16 : decode cX3_bumpsIn 16 = .ok (.invokestatic 43, 3) := by decide +kernel
theorem dX3_bumpsIn_19 : decode cX3_bumpsIn 19 = .ok (.iaload, 1) := by decide +kernel
theorem dX3_bumpsIn_20 : decode cX3_bumpsIn 20 = .ok (.iconst 1, 1) := by decide +kernel
theorem dX3_bumpsIn_21 : decode cX3_bumpsIn 21 = .ok (.if_icmp .ne 6, 3) := by decide +kernel
theorem dX3_bumpsIn_24 : decode cX3_bumpsIn 24 = .ok (.iinc 2 1, 3) := by decide +kernel
theorem dX3_bumpsIn_27 : decode cX3_bumpsIn 27 = .ok (.iinc 3 1, 3) := by decide +kernel
theorem dX3_bumpsIn_30 : decode cX3_bumpsIn 30 = .ok (.goto (-26), 3) := by decide +kernel
theorem dX3_bumpsIn_33 : decode cX3_bumpsIn 33 = .ok (.iload_n 2, 1) := by decide +kernel
theorem dX3_bumpsIn_34 : decode cX3_bumpsIn 34 = .ok (.ireturn, 1) := by decide +kernel
theorem dX3_bumpsInAll_0 : decode cX3_bumpsInAll 0 = .ok (.iconst 0, 1) := by decide +kernel
theorem dX3_bumpsInAll_1 : decode cX3_bumpsInAll 1 = .ok (.istore_n 1, 1) := by decide +kernel
theorem dX3_bumpsInAll_2 : decode cX3_bumpsInAll 2 = .ok (.iconst 0, 1) := by decide +kernel
theorem dX3_bumpsInAll_3 : decode cX3_bumpsInAll 3 = .ok (.istore_n 2, 1) := by decide +kernel
theorem dX3_bumpsInAll_4 : decode cX3_bumpsInAll 4 = .ok (.iload_n 2, 1) := by decide +kernel
theorem dX3_bumpsInAll_5 : decode cX3_bumpsInAll 5 = .ok (.iconst 3, 1) := by decide +kernel
theorem dX3_bumpsInAll_6 : decode cX3_bumpsInAll 6 = .ok (.if_icmp .ge 17, 3) := by decide +kernel
theorem dX3_bumpsInAll_9 : decode cX3_bumpsInAll 9 = .ok (.iload_n 1, 1) := by decide +kernel
theorem dX3_bumpsInAll_10 : decode cX3_bumpsInAll 10 = .ok (.aload_n 0, 1) := by decide +kernel
theorem dX3_bumpsInAll_11 : decode cX3_bumpsInAll 11 = .ok (.iload_n 2, 1) := by decide +kernel
theorem dX3_bumpsInAll_12 : decode cX3_bumpsInAll 12 = .ok (.invokevirtual 47, 3) := by decide +kernel
theorem dX3_bumpsInAll_15 : decode cX3_bumpsInAll 15 = .ok (.iadd, 1) := by decide +kernel
theorem dX3_bumpsInAll_16 : decode cX3_bumpsInAll 16 = .ok (.istore_n 1, 1) := by decide +kernel
theorem dX3_bumpsInAll_17 : decode cX3_bumpsInAll 17 = .ok (.iinc 2 1, 3) := by decide +kernel
theorem dX3_bumpsInAll_20 : decode cX3_bumpsInAll 20 = .ok (.goto (-16), 3) := by decide +kernel
theorem dX3_bumpsInAll_23 : decode cX3_bumpsInAll 23 = .ok (.iload_n 1, 1) := by decide +kernel
theorem dX3_bumpsInAll_24 : decode cX3_bumpsInAll 24 = .ok (.ireturn, 1) := by decide +kernel
theorem dX3_whoGoesIn_0 : decode cX3_whoGoesIn 0 = .ok (.iconst 0, 1) := by decide +kernel
theorem dX3_whoGoesIn_1 : decode cX3_whoGoesIn 1 = .ok (.istore_n 2, 1) := by decide +kernel
theorem dX3_whoGoesIn_2 : decode cX3_whoGoesIn 2 = .ok (.iconst 0, 1) := by decide +kernel
theorem dX3_whoGoesIn_3 : decode cX3_whoGoesIn 3 = .ok (.istore_n 3, 1) := by decide +kernel
theorem dX3_whoGoesIn_4 : decode cX3_whoGoesIn 4 = .ok (.iload_n 3, 1) := by decide +kernel
theorem dX3_whoGoesIn_5 : decode cX3_whoGoesIn 5 = .ok (.aload_n 0, 1) := by decide +kernel
theorem dX3_whoGoesIn_6 : decode cX3_whoGoesIn 6 = .ok (.getfield 18, 3) := by decide +kernel
theorem dX3_whoGoesIn_9 : decode cX3_whoGoesIn 9 = .ok (.if_icmp .ge 25, 3) := by decide +kernel
theorem dX3_whoGoesIn_12 : decode cX3_whoGoesIn 12 = .ok (.aload_n 0, 1) := by decide +kernel
theorem dX3_whoGoesIn_13 : decode cX3_whoGoesIn 13 = .ok (.getfield 34, 3) := by decide +kernel
theorem dX3_whoGoesIn_16 : decode cX3_whoGoesIn 16 = .ok (.iload_n 3, 1) := by decide +kernel
theorem dX3_whoGoesIn_17 : decode cX3_whoGoesIn 17 = .ok (.iaload, 1) := by decide +kernel
theorem dX3_whoGoesIn_18 : decode cX3_whoGoesIn 18 = .ok (.iload_n 1, 1) := by decide +kernel
theorem dX3_whoGoesIn_19 : decode cX3_whoGoesIn 19 = .ok (.if_icmp .ne 9, 3) := by decide +kernel
theorem dX3_whoGoesIn_22 : decode cX3_whoGoesIn 22 = .ok (.iload_n 2, 1) := by decide +kernel
theorem dX3_whoGoesIn_23 : decode cX3_whoGoesIn 23 = .ok (.iconst 1, 1) := by decide +kernel
theorem dX3_whoGoesIn_24 : decode cX3_whoGoesIn 24 = .ok (.iload_n 3, 1) := by decide +kernel
theorem dX3_whoGoesIn_25 : decode cX3_whoGoesIn 25 = .ok (.ishl, 1) := by decide +kernel
theorem dX3_whoGoesIn_26 : decode cX3_whoGoesIn 26 = .ok (.ior, 1) := by decide +kernel
theorem dX3_whoGoesIn_27 : decode cX3_whoGoesIn 27 = .ok (.istore_n 2, 1) := by decide +kernel
theorem dX3_whoGoesIn_28 : decode cX3_whoGoesIn 28 = .ok (.iinc 3 1, 3) := by decide +kernel
theorem dX3_whoGoesIn_31 : decode cX3_whoGoesIn 31 = .ok (.goto (-27), 3) := by decide +kernel
theorem dX3_whoGoesIn_34 : decode cX3_whoGoesIn 34 = .ok (.iload_n 2, 1) := by decide +kernel
theorem dX3_whoGoesIn_35 : decode cX3_whoGoesIn 35 = .ok (.ireturn, 1) := by decide +kernel
theorem dX3_wishesOfAll_0 : decode cX3_wishesOfAll 0 = .ok (.iconst 0, 1) := by decide +kernel
theorem dX3_wishesOfAll_1 : decode cX3_wishesOfAll 1 = .ok (.istore_n 1, 1) := by decide +kernel
theorem dX3_wishesOfAll_2 : decode cX3_wishesOfAll 2 = .ok (.iconst 0, 1) := by decide +kernel
theorem dX3_wishesOfAll_3 : decode cX3_wishesOfAll 3 = .ok (.istore_n 2, 1) := by decide +kernel
theorem dX3_wishesOfAll_4 : decode cX3_wishesOfAll 4 = .ok (.iload_n 2, 1) := by decide +kernel
theorem dX3_wishesOfAll_5 : decode cX3_wishesOfAll 5 = .ok (.aload_n 0, 1) := by decide +kernel
theorem dX3_wishesOfAll_6 : decode cX3_wishesOfAll 6 = .ok (.getfield 18, 3) := by decide +kernel
theorem dX3_wishesOfAll_9 : decode cX3_wishesOfAll 9 = .ok (.if_icmp .ge 18, 3) := by decide +kernel
theorem dX3_wishesOfAll_12 : decode cX3_wishesOfAll 12 = .ok (.iload_n 1, 1) := by decide +kernel
theorem dX3_wishesOfAll_13 : decode cX3_wishesOfAll 13 = .ok (.aload_n 0, 1) := by decide +kernel
theorem dX3_wishesOfAll_14 : decode cX3_wishesOfAll 14 = .ok (.getfield 31, 3) := by decide +kernel
theorem dX3_wishesOfAll_17 : decode cX3_wishesOfAll 17 = .ok (.iload_n 2, 1) := by decide +kernel
theorem dX3_wishesOfAll_18 : decode cX3_wishesOfAll 18 = .ok (.iaload, 1) := by decide +kernel
theorem dX3_wishesOfAll_19 : decode cX3_wishesOfAll 19 = .ok (.iadd, 1) := by decide +kernel
theorem dX3_wishesOfAll_20 : decode cX3_wishesOfAll 20 = .ok (.istore_n 1, 1) := by decide +kernel
theorem dX3_wishesOfAll_21 : decode cX3_wishesOfAll 21 = .ok (.iinc 2 1, 3) := by decide +kernel
theorem dX3_wishesOfAll_24 : decode cX3_wishesOfAll 24 = .ok (.goto (-20), 3) := by decide +kernel
theorem dX3_wishesOfAll_27 : decode cX3_wishesOfAll 27 = .ok (.iload_n 1, 1) := by decide +kernel
theorem dX3_wishesOfAll_28 : decode cX3_wishesOfAll 28 = .ok (.ireturn, 1) := by decide +kernel
theorem dX3_nextPace_0 : decode cX3_nextPace 0 = .ok (.iload 4, 2) := by decide +kernel
theorem dX3_nextPace_2 : decode cX3_nextPace 2 = .ok (.iload_n 1, 1) := by decide +kernel
theorem dX3_nextPace_3 : decode cX3_nextPace 3 = .ok (.invokestatic 51, 3) := by decide +kernel
theorem dX3_nextPace_6 : decode cX3_nextPace 6 = .ok (.iadd, 1) := by decide +kernel
theorem dX3_nextPace_7 : decode cX3_nextPace 7 = .ok (.istore 5, 2) := by decide +kernel
theorem dX3_nextPace_9 : decode cX3_nextPace 9 = .ok (.iload 5, 2) := by decide +kernel
theorem dX3_nextPace_11 : decode cX3_nextPace 11 = .ok (.iload_n 2, 1) := by decide +kernel
theorem dX3_nextPace_12 : decode cX3_nextPace 12 = .ok (.if_icmp .le 6, 3) := by decide +kernel
theorem dX3_nextPace_15 : decode cX3_nextPace 15 = .ok (.iload_n 2, 1) := by decide +kernel
theorem dX3_nextPace_16 : decode cX3_nextPace 16 = .ok (.istore 5, 2) := by decide +kernel
theorem dX3_nextPace_18 : decode cX3_nextPace 18 = .ok (.aload_n 0, 1) := by decide +kernel
theorem dX3_nextPace_19 : decode cX3_nextPace 19 = .ok (.getfield 21, 3) := by decide +kernel
theorem dX3_nextPace_22 : decode cX3_nextPace 22 = .ok (.iload_n 3, 1) := by decide +kernel
theorem dX3_nextPace_23 : decode cX3_nextPace 23 = .ok (.iaload, 1) := by decide +kernel
theorem dX3_nextPace_24 : decode cX3_nextPace 24 = .ok (.ifCond .ne 6, 3) := by decide +kernel
theorem dX3_nextPace_27 : decode cX3_nextPace 27 = .ok (.iload 5, 2) := by decide +kernel
theorem dX3_nextPace_29 : decode cX3_nextPace 29 = .ok (.ireturn, 1) := by decide +kernel
theorem dX3_nextPace_30 : decode cX3_nextPace 30 = .ok (.iload_n 1, 1) := by decide +kernel
theorem dX3_nextPace_31 : decode cX3_nextPace 31 = .ok (.iload_n 2, 1) := by decide +kernel
theorem dX3_nextPace_32 : decode cX3_nextPace 32 = .ok (.aload_n 0, 1) := by decide +kernel
theorem dX3_nextPace_33 : decode cX3_nextPace 33 = .ok (.getfield 21, 3) := by decide +kernel
theorem dX3_nextPace_36 : decode cX3_nextPace 36 = .ok (.iload_n 3, 1) := by decide +kernel
theorem dX3_nextPace_37 : decode cX3_nextPace 37 = .ok (.iaload, 1) := by decide +kernel
theorem dX3_nextPace_38 : decode cX3_nextPace 38 = .ok (.aload_n 0, 1) := by decide +kernel
theorem dX3_nextPace_39 : decode cX3_nextPace 39 = .ok (.getfield 15, 3) := by decide +kernel
theorem dX3_nextPace_42 : decode cX3_nextPace 42 = .ok (.aload_n 0, 1) := by decide +kernel
theorem dX3_nextPace_43 : decode cX3_nextPace 43 = .ok (.getfield 25, 3) := by decide +kernel
theorem dX3_nextPace_46 : decode cX3_nextPace 46 = .ok (.iload_n 3, 1) := by decide +kernel
theorem dX3_nextPace_47 : decode cX3_nextPace 47 = .ok (.iaload, 1) := by decide +kernel
theorem dX3_nextPace_48 : decode cX3_nextPace 48 = .ok (.invokestatic 56, 3) := by decide +kernel
theorem dX3_nextPace_51 : decode cX3_nextPace 51 = .ok (.istore 6, 2) := by decide +kernel
theorem dX3_nextPace_53 : decode cX3_nextPace 53 = .ok (.iload 6, 2) := by decide +kernel
theorem dX3_nextPace_55 : decode cX3_nextPace 55 = .ok (.iload 5, 2) := by decide +kernel
theorem dX3_nextPace_57 : decode cX3_nextPace 57 = .ok (.if_icmp .ge 8, 3) := by decide +kernel
theorem dX3_nextPace_60 : decode cX3_nextPace 60 = .ok (.iload 6, 2) := by decide +kernel
theorem dX3_nextPace_62 : decode cX3_nextPace 62 = .ok (.goto 5, 3) := by decide +kernel
theorem dX3_nextPace_65 : decode cX3_nextPace 65 = .ok (.iload 5, 2) := by decide +kernel
theorem dX3_nextPace_67 : decode cX3_nextPace 67 = .ok (.ireturn, 1) := by decide +kernel
theorem dX3_paceOn_0 : decode cX3_paceOn 0 = .ok (.iload_n 2, 1) := by decide +kernel
theorem dX3_paceOn_1 : decode cX3_paceOn 1 = .ok (.istore 5, 2) := by decide +kernel
theorem dX3_paceOn_3 : decode cX3_paceOn 3 = .ok (.iconst 0, 1) := by decide +kernel
theorem dX3_paceOn_4 : decode cX3_paceOn 4 = .ok (.istore 6, 2) := by decide +kernel
theorem dX3_paceOn_6 : decode cX3_paceOn 6 = .ok (.iload 6, 2) := by decide +kernel
theorem dX3_paceOn_8 : decode cX3_paceOn 8 = .ok (.iload 4, 2) := by decide +kernel
theorem dX3_paceOn_10 : decode cX3_paceOn 10 = .ok (.if_icmp .gt 25, 3) := by decide +kernel
theorem dX3_paceOn_13 : decode cX3_paceOn 13 = .ok (.aload_n 0, 1) := by decide +kernel
theorem dX3_paceOn_14 : decode cX3_paceOn 14 = .ok (.iload_n 1, 1) := by decide +kernel
theorem dX3_paceOn_15 : decode cX3_paceOn 15 = .ok (.iload_n 2, 1) := by decide +kernel
theorem dX3_paceOn_16 : decode cX3_paceOn 16 = .ok (.iload_n 3, 1) := by decide +kernel
theorem dX3_paceOn_17 : decode cX3_paceOn 17 = .ok (.iload 6, 2) := by decide +kernel
theorem dX3_paceOn_19 : decode cX3_paceOn 19 = .ok (.invokestatic 43, 3) := by decide +kernel
theorem dX3_paceOn_22 : decode cX3_paceOn 22 = .ok (.iload 5, 2) := by decide +kernel
theorem dX3_paceOn_24 : decode cX3_paceOn 24 = .ok (.invokevirtual 60, 3) := by decide +kernel
theorem dX3_paceOn_27 : decode cX3_paceOn 27 = .ok (.istore 5, 2) := by decide +kernel
theorem dX3_paceOn_29 : decode cX3_paceOn 29 = .ok (.iinc 6 1, 3) := by decide +kernel
theorem dX3_paceOn_32 : decode cX3_paceOn 32 = .ok (.goto (-26), 3) := by decide +kernel
theorem dX3_paceOn_35 : decode cX3_paceOn 35 = .ok (.iload 5, 2) := by decide +kernel
theorem dX3_paceOn_37 : decode cX3_paceOn 37 = .ok (.ireturn, 1) := by decide +kernel
theorem dX3_topPace_0 : decode cX3_topPace 0 = .ok (.iload_n 2, 1) := by decide +kernel
theorem dX3_topPace_1 : decode cX3_topPace 1 = .ok (.istore 4, 2) := by decide +kernel
theorem dX3_topPace_3 : decode cX3_topPace 3 = .ok (.iconst 0, 1) := by decide +kernel
theorem dX3_topPace_4 : decode cX3_topPace 4 = .ok (.istore 5, 2) := by decide +kernel
theorem dX3_topPace_6 : decode cX3_topPace 6 = .ok (.iconst 0, 1) := by decide +kernel
theorem dX3_topPace_7 : decode cX3_topPace 7 = .ok (.istore 6, 2) := by decide +kernel
theorem dX3_topPace_9 : decode cX3_topPace 9 = .ok (.iload 6, 2) := by decide +kernel
theorem dX3_topPace_11 : decode cX3_topPace 11 = .ok (.bipush 20, 2) := by decide +kernel
theorem dX3_topPace_13 : decode cX3_topPace 13 = .ok (.if_icmp .ge 34, 3) := by decide +kernel
theorem dX3_topPace_16 : decode cX3_topPace 16 = .ok (.aload_n 0, 1) := by decide +kernel
theorem dX3_topPace_17 : decode cX3_topPace 17 = .ok (.iload_n 1, 1) := by decide +kernel
theorem dX3_topPace_18 : decode cX3_topPace 18 = .ok (.iload_n 2, 1) := by decide +kernel
theorem dX3_topPace_19 : decode cX3_topPace 19 = .ok (.iload_n 3, 1) := by decide +kernel
theorem dX3_topPace_20 : decode cX3_topPace 20 = .ok (.iload 6, 2) := by decide +kernel
theorem dX3_topPace_22 : decode cX3_topPace 22 = .ok (.invokestatic 43, 3) := by decide +kernel
theorem dX3_topPace_25 : decode cX3_topPace 25 = .ok (.iload 4, 2) := by decide +kernel
theorem dX3_topPace_27 : decode cX3_topPace 27 = .ok (.invokevirtual 60, 3) := by decide +kernel
theorem dX3_topPace_30 : decode cX3_topPace 30 = .ok (.istore 4, 2) := by decide +kernel
theorem dX3_topPace_32 : decode cX3_topPace 32 = .ok (.iload 5, 2) := by decide +kernel
theorem dX3_topPace_34 : decode cX3_topPace 34 = .ok (.iload 4, 2) := by decide +kernel
theorem dX3_topPace_36 : decode cX3_topPace 36 = .ok (.invokestatic 64, 3) := by decide +kernel
theorem dX3_topPace_39 : decode cX3_topPace 39 = .ok (.istore 5, 2) := by decide +kernel
theorem dX3_topPace_41 : decode cX3_topPace 41 = .ok (.iinc 6 1, 3) := by decide +kernel
theorem dX3_topPace_44 : decode cX3_topPace 44 = .ok (.goto (-35), 3) := by decide +kernel
theorem dX3_topPace_47 : decode cX3_topPace 47 = .ok (.iload 5, 2) := by decide +kernel
theorem dX3_topPace_49 : decode cX3_topPace 49 = .ok (.ireturn, 1) := by decide +kernel
theorem dX3_timeFor_0 : decode cX3_timeFor 0 = .ok (.iload_n 2, 1) := by decide +kernel
theorem dX3_timeFor_1 : decode cX3_timeFor 1 = .ok (.istore 4, 2) := by decide +kernel
theorem dX3_timeFor_3 : decode cX3_timeFor 3 = .ok (.iconst 0, 1) := by decide +kernel
theorem dX3_timeFor_4 : decode cX3_timeFor 4 = .ok (.istore 5, 2) := by decide +kernel
theorem dX3_timeFor_6 : decode cX3_timeFor 6 = .ok (.iconst 0, 1) := by decide +kernel
theorem dX3_timeFor_7 : decode cX3_timeFor 7 = .ok (.istore 6, 2) := by decide +kernel
theorem dX3_timeFor_9 : decode cX3_timeFor 9 = .ok (.iload 6, 2) := by decide +kernel
theorem dX3_timeFor_11 : decode cX3_timeFor 11 = .ok (.bipush 20, 2) := by decide +kernel
theorem dX3_timeFor_13 : decode cX3_timeFor 13 = .ok (.if_icmp .ge 41, 3) := by decide +kernel
theorem dX3_timeFor_16 : decode cX3_timeFor 16 = .ok (.aload_n 0, 1) := by decide +kernel
theorem dX3_timeFor_17 : decode cX3_timeFor 17 = .ok (.iload_n 1, 1) := by decide +kernel
theorem dX3_timeFor_18 : decode cX3_timeFor 18 = .ok (.iload_n 2, 1) := by decide +kernel
theorem dX3_timeFor_19 : decode cX3_timeFor 19 = .ok (.iload_n 3, 1) := by decide +kernel
theorem dX3_timeFor_20 : decode cX3_timeFor 20 = .ok (.iload 6, 2) := by decide +kernel
theorem dX3_timeFor_22 : decode cX3_timeFor 22 = .ok (.invokestatic 43, 3) := by decide +kernel
theorem dX3_timeFor_25 : decode cX3_timeFor 25 = .ok (.iload 4, 2) := by decide +kernel
theorem dX3_timeFor_27 : decode cX3_timeFor 27 = .ok (.invokevirtual 60, 3) := by decide +kernel
theorem dX3_timeFor_30 : decode cX3_timeFor 30 = .ok (.istore 4, 2) := by decide +kernel
theorem dX3_timeFor_32 : decode cX3_timeFor 32 = .ok (.iload 4, 2) := by decide +kernel
theorem dX3_timeFor_34 : decode cX3_timeFor 34 = .ok (.ifCond .le 14, 3) := by decide +kernel
theorem dX3_timeFor_37 : decode cX3_timeFor 37 = .ok (.iload 5, 2) := by decide +kernel
theorem dX3_timeFor_39 : decode cX3_timeFor 39 = .ok (.sipush 1227, 3) := by decide +kernel
theorem dX3_timeFor_42 : decode cX3_timeFor 42 = .ok (.iload 4, 2) := by decide +kernel
theorem dX3_timeFor_44 : decode cX3_timeFor 44 = .ok (.idiv, 1) := by decide +kernel
theorem dX3_timeFor_45 : decode cX3_timeFor 45 = .ok (.iadd, 1) := by decide +kernel
theorem dX3_timeFor_46 : decode cX3_timeFor 46 = .ok (.istore 5, 2) := by decide +kernel
theorem dX3_timeFor_48 : decode cX3_timeFor 48 = .ok (.iinc 6 1, 3) := by decide +kernel
theorem dX3_timeFor_51 : decode cX3_timeFor 51 = .ok (.goto (-42), 3) := by decide +kernel
theorem dX3_timeFor_54 : decode cX3_timeFor 54 = .ok (.iload 5, 2) := by decide +kernel
theorem dX3_timeFor_56 : decode cX3_timeFor 56 = .ok (.ireturn, 1) := by decide +kernel
theorem dX3_shakingBy_0 : decode cX3_shakingBy 0 = .ok (.iload_n 2, 1) := by decide +kernel
theorem dX3_shakingBy_1 : decode cX3_shakingBy 1 = .ok (.istore 4, 2) := by decide +kernel
theorem dX3_shakingBy_3 : decode cX3_shakingBy 3 = .ok (.iconst 0, 1) := by decide +kernel
theorem dX3_shakingBy_4 : decode cX3_shakingBy 4 = .ok (.istore 5, 2) := by decide +kernel
theorem dX3_shakingBy_6 : decode cX3_shakingBy 6 = .ok (.iconst 0, 1) := by decide +kernel
theorem dX3_shakingBy_7 : decode cX3_shakingBy 7 = .ok (.istore 6, 2) := by decide +kernel
theorem dX3_shakingBy_9 : decode cX3_shakingBy 9 = .ok (.iload 6, 2) := by decide +kernel
theorem dX3_shakingBy_11 : decode cX3_shakingBy 11 = .ok (.bipush 20, 2) := by decide +kernel
theorem dX3_shakingBy_13 : decode cX3_shakingBy 13 = .ok (.if_icmp .ge 55, 3) := by decide +kernel
theorem dX3_shakingBy_16 : decode cX3_shakingBy 16 = .ok (.aload_n 0, 1) := by decide +kernel
theorem dX3_shakingBy_17 : decode cX3_shakingBy 17 = .ok (.iload_n 1, 1) := by decide +kernel
theorem dX3_shakingBy_18 : decode cX3_shakingBy 18 = .ok (.iload_n 2, 1) := by decide +kernel
theorem dX3_shakingBy_19 : decode cX3_shakingBy 19 = .ok (.iload_n 3, 1) := by decide +kernel
theorem dX3_shakingBy_20 : decode cX3_shakingBy 20 = .ok (.iload 6, 2) := by decide +kernel
theorem dX3_shakingBy_22 : decode cX3_shakingBy 22 = .ok (.invokestatic 43, 3) := by decide +kernel
theorem dX3_shakingBy_25 : decode cX3_shakingBy 25 = .ok (.iload 4, 2) := by decide +kernel
theorem dX3_shakingBy_27 : decode cX3_shakingBy 27 = .ok (.invokevirtual 60, 3) := by decide +kernel
theorem dX3_shakingBy_30 : decode cX3_shakingBy 30 = .ok (.istore 4, 2) := by decide +kernel
theorem dX3_shakingBy_32 : decode cX3_shakingBy 32 = .ok (.aload_n 0, 1) := by decide +kernel
theorem dX3_shakingBy_33 : decode cX3_shakingBy 33 = .ok (.getfield 21, 3) := by decide +kernel
theorem dX3_shakingBy_36 : decode cX3_shakingBy 36 = .ok (.iload_n 3, 1) := by decide +kernel
theorem dX3_shakingBy_37 : decode cX3_shakingBy 37 = .ok (.iload 6, 2) := by decide +kernel
theorem dX3_shakingBy_39 : decode cX3_shakingBy 39 = .ok (.invokestatic 43, 3) := by decide +kernel
theorem dX3_shakingBy_42 : decode cX3_shakingBy 42 = .ok (.iaload, 1) := by decide +kernel
theorem dX3_shakingBy_43 : decode cX3_shakingBy 43 = .ok (.iconst 1, 1) := by decide +kernel
theorem dX3_shakingBy_44 : decode cX3_shakingBy 44 = .ok (.if_icmp .ne 18, 3) := by decide +kernel
theorem dX3_shakingBy_47 : decode cX3_shakingBy 47 = .ok (.iload 5, 2) := by decide +kernel
theorem dX3_shakingBy_49 : decode cX3_shakingBy 49 = .ok (.iload_n 1, 1) := by decide +kernel
theorem dX3_shakingBy_50 : decode cX3_shakingBy 50 = .ok (.iload 4, 2) := by decide +kernel
theorem dX3_shakingBy_52 : decode cX3_shakingBy 52 = .ok (.aload_n 0, 1) := by decide +kernel
theorem dX3_shakingBy_53 : decode cX3_shakingBy 53 = .ok (.getfield 15, 3) := by decide +kernel
theorem dX3_shakingBy_56 : decode cX3_shakingBy 56 = .ok (.invokestatic 69, 3) := by decide +kernel
theorem dX3_shakingBy_59 : decode cX3_shakingBy 59 = .ok (.iadd, 1) := by decide +kernel
theorem dX3_shakingBy_60 : decode cX3_shakingBy 60 = .ok (.istore 5, 2) := by decide +kernel
theorem dX3_shakingBy_62 : decode cX3_shakingBy 62 = .ok (.iinc 6 1, 3) := by decide +kernel
theorem dX3_shakingBy_65 : decode cX3_shakingBy 65 = .ok (.goto (-56), 3) := by decide +kernel
theorem dX3_shakingBy_68 : decode cX3_shakingBy 68 = .ok (.iload 5, 2) := by decide +kernel
theorem dX3_shakingBy_70 : decode cX3_shakingBy 70 = .ok (.ireturn, 1) := by decide +kernel
theorem dX3_goesJustAs_0 : decode cX3_goesJustAs 0 = .ok (.iload_n 3, 1) := by decide +kernel
theorem dX3_goesJustAs_1 : decode cX3_goesJustAs 1 = .ok (.istore 5, 2) := by decide +kernel
theorem dX3_goesJustAs_3 : decode cX3_goesJustAs 3 = .ok (.aload_n 1, 1) := by decide +kernel
theorem dX3_goesJustAs_4 : decode cX3_goesJustAs 4 = .ok (.getfield 73, 3) := by decide +kernel
theorem dX3_goesJustAs_7 : decode cX3_goesJustAs 7 = .ok (.bipush 20, 2) := by decide +kernel
theorem dX3_goesJustAs_9 : decode cX3_goesJustAs 9 = .ok (.invokestatic 78, 3) := by decide +kernel
theorem dX3_goesJustAs_12 : decode cX3_goesJustAs 12 = .ok (.istore 6, 2) := by decide +kernel
theorem dX3_goesJustAs_14 : decode cX3_goesJustAs 14 = .ok (.iconst 0, 1) := by decide +kernel
theorem dX3_goesJustAs_15 : decode cX3_goesJustAs 15 = .ok (.istore 7, 2) := by decide +kernel
theorem dX3_goesJustAs_17 : decode cX3_goesJustAs 17 = .ok (.iload 7, 2) := by decide +kernel
theorem dX3_goesJustAs_19 : decode cX3_goesJustAs 19 = .ok (.iload 6, 2) := by decide +kernel
theorem dX3_goesJustAs_21 : decode cX3_goesJustAs 21 = .ok (.if_icmp .ge 42, 3) := by decide +kernel
theorem dX3_goesJustAs_24 : decode cX3_goesJustAs 24 = .ok (.aload_n 0, 1) := by decide +kernel
theorem dX3_goesJustAs_25 : decode cX3_goesJustAs 25 = .ok (.iload_n 2, 1) := by decide +kernel
theorem dX3_goesJustAs_26 : decode cX3_goesJustAs 26 = .ok (.iload_n 3, 1) := by decide +kernel
theorem dX3_goesJustAs_27 : decode cX3_goesJustAs 27 = .ok (.iload 4, 2) := by decide +kernel
theorem dX3_goesJustAs_29 : decode cX3_goesJustAs 29 = .ok (.iload 7, 2) := by decide +kernel
theorem dX3_goesJustAs_31 : decode cX3_goesJustAs 31 = .ok (.invokestatic 43, 3) := by decide +kernel
theorem dX3_goesJustAs_34 : decode cX3_goesJustAs 34 = .ok (.iload 5, 2) := by decide +kernel
theorem dX3_goesJustAs_36 : decode cX3_goesJustAs 36 = .ok (.invokevirtual 60, 3) := by decide +kernel
theorem dX3_goesJustAs_39 : decode cX3_goesJustAs 39 = .ok (.istore 5, 2) := by decide +kernel
theorem dX3_goesJustAs_41 : decode cX3_goesJustAs 41 = .ok (.aload_n 1, 1) := by decide +kernel
theorem dX3_goesJustAs_42 : decode cX3_goesJustAs 42 = .ok (.getfield 81, 3) := by decide +kernel
theorem dX3_goesJustAs_45 : decode cX3_goesJustAs 45 = .ok (.iload 7, 2) := by decide +kernel
theorem dX3_goesJustAs_47 : decode cX3_goesJustAs 47 = .ok (.laload, 1) := by decide +kernel
theorem dX3_goesJustAs_48 : decode cX3_goesJustAs 48 = .ok (.iload 5, 2) := by decide +kernel
theorem dX3_goesJustAs_50 : decode cX3_goesJustAs 50 = .ok (.i2l, 1) := by decide +kernel
theorem dX3_goesJustAs_51 : decode cX3_goesJustAs 51 = .ok (.lcmp, 1) := by decide +kernel
theorem dX3_goesJustAs_52 : decode cX3_goesJustAs 52 = .ok (.ifCond .eq 5, 3) := by decide +kernel
theorem dX3_goesJustAs_55 : decode cX3_goesJustAs 55 = .ok (.iconst 0, 1) := by decide +kernel
theorem dX3_goesJustAs_56 : decode cX3_goesJustAs 56 = .ok (.ireturn, 1) := by decide +kernel
theorem dX3_goesJustAs_57 : decode cX3_goesJustAs 57 = .ok (.iinc 7 1, 3) := by decide +kernel
theorem dX3_goesJustAs_60 : decode cX3_goesJustAs 60 = .ok (.goto (-43), 3) := by decide +kernel
theorem dX3_goesJustAs_63 : decode cX3_goesJustAs 63 = .ok (.iconst 1, 1) := by decide +kernel
theorem dX3_goesJustAs_64 : decode cX3_goesJustAs 64 = .ok (.ireturn, 1) := by decide +kernel
theorem dX3_shakingIn_0 : decode cX3_shakingIn 0 = .ok (.iconst 0, 1) := by decide +kernel
theorem dX3_shakingIn_1 : decode cX3_shakingIn 1 = .ok (.istore_n 2, 1) := by decide +kernel
theorem dX3_shakingIn_2 : decode cX3_shakingIn 2 = .ok (.iconst 0, 1) := by decide +kernel
theorem dX3_shakingIn_3 : decode cX3_shakingIn 3 = .ok (.istore_n 3, 1) := by decide +kernel
theorem dX3_shakingIn_4 : decode cX3_shakingIn 4 = .ok (.iload_n 3, 1) := by decide +kernel
theorem dX3_shakingIn_5 : decode cX3_shakingIn 5 = .ok (.aload_n 0, 1) := by decide +kernel
theorem dX3_shakingIn_6 : decode cX3_shakingIn 6 = .ok (.getfield 18, 3) := by decide +kernel
theorem dX3_shakingIn_9 : decode cX3_shakingIn 9 = .ok (.if_icmp .ge 39, 3) := by decide +kernel
theorem dX3_shakingIn_12 : decode cX3_shakingIn 12 = .ok (.aload_n 0, 1) := by decide +kernel
theorem dX3_shakingIn_13 : decode cX3_shakingIn 13 = .ok (.getfield 34, 3) := by decide +kernel
theorem dX3_shakingIn_16 : decode cX3_shakingIn 16 = .ok (.iload_n 3, 1) := by decide +kernel
theorem dX3_shakingIn_17 : decode cX3_shakingIn 17 = .ok (.iaload, 1) := by decide +kernel
theorem dX3_shakingIn_18 : decode cX3_shakingIn 18 = .ok (.iload_n 1, 1) := by decide +kernel
theorem dX3_shakingIn_19 : decode cX3_shakingIn 19 = .ok (.if_icmp .ne 23, 3) := by decide +kernel
theorem dX3_shakingIn_22 : decode cX3_shakingIn 22 = .ok (.iload_n 2, 1) := by decide +kernel
theorem dX3_shakingIn_23 : decode cX3_shakingIn 23 = .ok (.aload_n 0, 1) := by decide +kernel
theorem dX3_shakingIn_24 : decode cX3_shakingIn 24 = .ok (.aload_n 0, 1) := by decide +kernel
theorem dX3_shakingIn_25 : decode cX3_shakingIn 25 = .ok (.getfield 28, 3) := by decide +kernel
theorem dX3_shakingIn_28 : decode cX3_shakingIn 28 = .ok (.iload_n 3, 1) := by decide +kernel
theorem dX3_shakingIn_29 : decode cX3_shakingIn 29 = .ok (.iaload, 1) := by decide +kernel
theorem dX3_shakingIn_30 : decode cX3_shakingIn 30 = .ok (.aload_n 0, 1) := by decide +kernel
theorem dX3_shakingIn_31 : decode cX3_shakingIn 31 = .ok (.getfield 31, 3) := by decide +kernel
theorem dX3_shakingIn_34 : decode cX3_shakingIn 34 = .ok (.iload_n 3, 1) := by decide +kernel
theorem dX3_shakingIn_35 : decode cX3_shakingIn 35 = .ok (.iaload, 1) := by decide +kernel
theorem dX3_shakingIn_36 : decode cX3_shakingIn 36 = .ok (.iload_n 1, 1) := by decide +kernel
theorem dX3_shakingIn_37 : decode cX3_shakingIn 37 = .ok (.invokevirtual 85, 3) := by decide +kernel
theorem dX3_shakingIn_40 : decode cX3_shakingIn 40 = .ok (.iadd, 1) := by decide +kernel
theorem dX3_shakingIn_41 : decode cX3_shakingIn 41 = .ok (.istore_n 2, 1) := by decide +kernel
theorem dX3_shakingIn_42 : decode cX3_shakingIn 42 = .ok (.iinc 3 1, 3) := by decide +kernel
theorem dX3_shakingIn_45 : decode cX3_shakingIn 45 = .ok (.goto (-41), 3) := by decide +kernel
theorem dX3_shakingIn_48 : decode cX3_shakingIn 48 = .ok (.iload_n 2, 1) := by decide +kernel
theorem dX3_shakingIn_49 : decode cX3_shakingIn 49 = .ok (.ireturn, 1) := by decide +kernel
theorem dX3_shakingOfAll_0 : decode cX3_shakingOfAll 0 = .ok (.iconst 0, 1) := by decide +kernel
theorem dX3_shakingOfAll_1 : decode cX3_shakingOfAll 1 = .ok (.istore_n 1, 1) := by decide +kernel
theorem dX3_shakingOfAll_2 : decode cX3_shakingOfAll 2 = .ok (.iconst 0, 1) := by decide +kernel
theorem dX3_shakingOfAll_3 : decode cX3_shakingOfAll 3 = .ok (.istore_n 2, 1) := by decide +kernel
theorem dX3_shakingOfAll_4 : decode cX3_shakingOfAll 4 = .ok (.iload_n 2, 1) := by decide +kernel
theorem dX3_shakingOfAll_5 : decode cX3_shakingOfAll 5 = .ok (.aload_n 0, 1) := by decide +kernel
theorem dX3_shakingOfAll_6 : decode cX3_shakingOfAll 6 = .ok (.getfield 18, 3) := by decide +kernel
theorem dX3_shakingOfAll_9 : decode cX3_shakingOfAll 9 = .ok (.if_icmp .ge 34, 3) := by decide +kernel
theorem dX3_shakingOfAll_12 : decode cX3_shakingOfAll 12 = .ok (.iload_n 1, 1) := by decide +kernel
theorem dX3_shakingOfAll_13 : decode cX3_shakingOfAll 13 = .ok (.aload_n 0, 1) := by decide +kernel
theorem dX3_shakingOfAll_14 : decode cX3_shakingOfAll 14 = .ok (.aload_n 0, 1) := by decide +kernel
theorem dX3_shakingOfAll_15 : decode cX3_shakingOfAll 15 = .ok (.getfield 28, 3) := by decide +kernel
theorem dX3_shakingOfAll_18 : decode cX3_shakingOfAll 18 = .ok (.iload_n 2, 1) := by decide +kernel
theorem dX3_shakingOfAll_19 : decode cX3_shakingOfAll 19 = .ok (.iaload, 1) := by decide +kernel
theorem dX3_shakingOfAll_20 : decode cX3_shakingOfAll 20 = .ok (.aload_n 0, 1) := by decide +kernel
theorem dX3_shakingOfAll_21 : decode cX3_shakingOfAll 21 = .ok (.getfield 31, 3) := by decide +kernel
theorem dX3_shakingOfAll_24 : decode cX3_shakingOfAll 24 = .ok (.iload_n 2, 1) := by decide +kernel
theorem dX3_shakingOfAll_25 : decode cX3_shakingOfAll 25 = .ok (.iaload, 1) := by decide +kernel
theorem dX3_shakingOfAll_26 : decode cX3_shakingOfAll 26 = .ok (.aload_n 0, 1) := by decide +kernel
theorem dX3_shakingOfAll_27 : decode cX3_shakingOfAll 27 = .ok (.getfield 34, 3) := by decide +kernel
theorem dX3_shakingOfAll_30 : decode cX3_shakingOfAll 30 = .ok (.iload_n 2, 1) := by decide +kernel
theorem dX3_shakingOfAll_31 : decode cX3_shakingOfAll 31 = .ok (.iaload, 1) := by decide +kernel
theorem dX3_shakingOfAll_32 : decode cX3_shakingOfAll 32 = .ok (.invokevirtual 85, 3) := by decide +kernel
theorem dX3_shakingOfAll_35 : decode cX3_shakingOfAll 35 = .ok (.iadd, 1) := by decide +kernel
theorem dX3_shakingOfAll_36 : decode cX3_shakingOfAll 36 = .ok (.istore_n 1, 1) := by decide +kernel
theorem dX3_shakingOfAll_37 : decode cX3_shakingOfAll 37 = .ok (.iinc 2 1, 3) := by decide +kernel
theorem dX3_shakingOfAll_40 : decode cX3_shakingOfAll 40 = .ok (.goto (-36), 3) := by decide +kernel
theorem dX3_shakingOfAll_43 : decode cX3_shakingOfAll 43 = .ok (.iload_n 1, 1) := by decide +kernel
theorem dX3_shakingOfAll_44 : decode cX3_shakingOfAll 44 = .ok (.ireturn, 1) := by decide +kernel
theorem dX3_timeOfAll_0 : decode cX3_timeOfAll 0 = .ok (.iconst 0, 1) := by decide +kernel
theorem dX3_timeOfAll_1 : decode cX3_timeOfAll 1 = .ok (.istore_n 1, 1) := by decide +kernel
theorem dX3_timeOfAll_2 : decode cX3_timeOfAll 2 = .ok (.iconst 0, 1) := by decide +kernel
theorem dX3_timeOfAll_3 : decode cX3_timeOfAll 3 = .ok (.istore_n 2, 1) := by decide +kernel
theorem dX3_timeOfAll_4 : decode cX3_timeOfAll 4 = .ok (.iload_n 2, 1) := by decide +kernel
theorem dX3_timeOfAll_5 : decode cX3_timeOfAll 5 = .ok (.aload_n 0, 1) := by decide +kernel
theorem dX3_timeOfAll_6 : decode cX3_timeOfAll 6 = .ok (.getfield 18, 3) := by decide +kernel
theorem dX3_timeOfAll_9 : decode cX3_timeOfAll 9 = .ok (.if_icmp .ge 34, 3) := by decide +kernel
theorem dX3_timeOfAll_12 : decode cX3_timeOfAll 12 = .ok (.iload_n 1, 1) := by decide +kernel
theorem dX3_timeOfAll_13 : decode cX3_timeOfAll 13 = .ok (.aload_n 0, 1) := by decide +kernel
theorem dX3_timeOfAll_14 : decode cX3_timeOfAll 14 = .ok (.aload_n 0, 1) := by decide +kernel
theorem dX3_timeOfAll_15 : decode cX3_timeOfAll 15 = .ok (.getfield 28, 3) := by decide +kernel
theorem dX3_timeOfAll_18 : decode cX3_timeOfAll 18 = .ok (.iload_n 2, 1) := by decide +kernel
theorem dX3_timeOfAll_19 : decode cX3_timeOfAll 19 = .ok (.iaload, 1) := by decide +kernel
theorem dX3_timeOfAll_20 : decode cX3_timeOfAll 20 = .ok (.aload_n 0, 1) := by decide +kernel
theorem dX3_timeOfAll_21 : decode cX3_timeOfAll 21 = .ok (.getfield 31, 3) := by decide +kernel
theorem dX3_timeOfAll_24 : decode cX3_timeOfAll 24 = .ok (.iload_n 2, 1) := by decide +kernel
theorem dX3_timeOfAll_25 : decode cX3_timeOfAll 25 = .ok (.iaload, 1) := by decide +kernel
theorem dX3_timeOfAll_26 : decode cX3_timeOfAll 26 = .ok (.aload_n 0, 1) := by decide +kernel
theorem dX3_timeOfAll_27 : decode cX3_timeOfAll 27 = .ok (.getfield 34, 3) := by decide +kernel
theorem dX3_timeOfAll_30 : decode cX3_timeOfAll 30 = .ok (.iload_n 2, 1) := by decide +kernel
theorem dX3_timeOfAll_31 : decode cX3_timeOfAll 31 = .ok (.iaload, 1) := by decide +kernel
theorem dX3_timeOfAll_32 : decode cX3_timeOfAll 32 = .ok (.invokevirtual 88, 3) := by decide +kernel
theorem dX3_timeOfAll_35 : decode cX3_timeOfAll 35 = .ok (.iadd, 1) := by decide +kernel
theorem dX3_timeOfAll_36 : decode cX3_timeOfAll 36 = .ok (.istore_n 1, 1) := by decide +kernel
theorem dX3_timeOfAll_37 : decode cX3_timeOfAll 37 = .ok (.iinc 2 1, 3) := by decide +kernel
theorem dX3_timeOfAll_40 : decode cX3_timeOfAll 40 = .ok (.goto (-36), 3) := by decide +kernel
theorem dX3_timeOfAll_43 : decode cX3_timeOfAll 43 = .ok (.iload_n 1, 1) := by decide +kernel
theorem dX3_timeOfAll_44 : decode cX3_timeOfAll 44 = .ok (.ireturn, 1) := by decide +kernel
theorem dX3_timeInAllStreets_0 : decode cX3_timeInAllStreets 0 = .ok (.iconst 0, 1) := by decide +kernel
theorem dX3_timeInAllStreets_1 : decode cX3_timeInAllStreets 1 = .ok (.istore_n 2, 1) := by decide +kernel
theorem dX3_timeInAllStreets_2 : decode cX3_timeInAllStreets 2 = .ok (.iconst 0, 1) := by decide +kernel
theorem dX3_timeInAllStreets_3 : decode cX3_timeInAllStreets 3 = .ok (.istore_n 3, 1) := by decide +kernel
theorem dX3_timeInAllStreets_4 : decode cX3_timeInAllStreets 4 = .ok (.iload_n 3, 1) := by decide +kernel
theorem dX3_timeInAllStreets_5 : decode cX3_timeInAllStreets 5 = .ok (.iconst 3, 1) := by decide +kernel
theorem dX3_timeInAllStreets_6 : decode cX3_timeInAllStreets 6 = .ok (.if_icmp .ge 29, 3) := by decide +kernel
theorem dX3_timeInAllStreets_9 : decode cX3_timeInAllStreets 9 = .ok (.iload_n 2, 1) := by decide +kernel
theorem dX3_timeInAllStreets_10 : decode cX3_timeInAllStreets 10 = .ok (.aload_n 0, 1) := by decide +kernel
theorem dX3_timeInAllStreets_11 : decode cX3_timeInAllStreets 11 = .ok (.aload_n 0, 1) := by decide +kernel
theorem dX3_timeInAllStreets_12 : decode cX3_timeInAllStreets 12 = .ok (.getfield 28, 3) := by decide +kernel
theorem dX3_timeInAllStreets_15 : decode cX3_timeInAllStreets 15 = .ok (.iload_n 1, 1) := by decide +kernel
theorem dX3_timeInAllStreets_16 : decode cX3_timeInAllStreets 16 = .ok (.iaload, 1) := by decide +kernel
theorem dX3_timeInAllStreets_17 : decode cX3_timeInAllStreets 17 = .ok (.aload_n 0, 1) := by decide +kernel
theorem dX3_timeInAllStreets_18 : decode cX3_timeInAllStreets 18 = .ok (.getfield 31, 3) := by decide +kernel
theorem dX3_timeInAllStreets_21 : decode cX3_timeInAllStreets 21 = .ok (.iload_n 1, 1) := by decide +kernel
theorem dX3_timeInAllStreets_22 : decode cX3_timeInAllStreets 22 = .ok (.iaload, 1) := by decide +kernel
theorem dX3_timeInAllStreets_23 : decode cX3_timeInAllStreets 23 = .ok (.iload_n 3, 1) := by decide +kernel
theorem dX3_timeInAllStreets_24 : decode cX3_timeInAllStreets 24 = .ok (.invokevirtual 88, 3) := by decide +kernel
theorem dX3_timeInAllStreets_27 : decode cX3_timeInAllStreets 27 = .ok (.iadd, 1) := by decide +kernel
theorem dX3_timeInAllStreets_28 : decode cX3_timeInAllStreets 28 = .ok (.istore_n 2, 1) := by decide +kernel
theorem dX3_timeInAllStreets_29 : decode cX3_timeInAllStreets 29 = .ok (.iinc 3 1, 3) := by decide +kernel
theorem dX3_timeInAllStreets_32 : decode cX3_timeInAllStreets 32 = .ok (.goto (-28), 3) := by decide +kernel
theorem dX3_timeInAllStreets_35 : decode cX3_timeInAllStreets 35 = .ok (.iload_n 2, 1) := by decide +kernel
theorem dX3_timeInAllStreets_36 : decode cX3_timeInAllStreets 36 = .ok (.ireturn, 1) := by decide +kernel
theorem dX3_howManyGoElsewhere_0 : decode cX3_howManyGoElsewhere 0 = .ok (.iconst 0, 1) := by decide +kernel
theorem dX3_howManyGoElsewhere_1 : decode cX3_howManyGoElsewhere 1 = .ok (.istore_n 2, 1) := by decide +kernel
theorem dX3_howManyGoElsewhere_2 : decode cX3_howManyGoElsewhere 2 = .ok (.iconst 0, 1) := by decide +kernel
theorem dX3_howManyGoElsewhere_3 : decode cX3_howManyGoElsewhere 3 = .ok (.istore_n 3, 1) := by decide +kernel
theorem dX3_howManyGoElsewhere_4 : decode cX3_howManyGoElsewhere 4 = .ok (.iload_n 3, 1) := by decide +kernel
theorem dX3_howManyGoElsewhere_5 : decode cX3_howManyGoElsewhere 5 = .ok (.aload_n 0, 1) := by decide +kernel
theorem dX3_howManyGoElsewhere_6 : decode cX3_howManyGoElsewhere 6 = .ok (.getfield 18, 3) := by decide +kernel
theorem dX3_howManyGoElsewhere_9 : decode cX3_howManyGoElsewhere 9 = .ok (.if_icmp .ge 27, 3) := by decide +kernel
theorem dX3_howManyGoElsewhere_12 : decode cX3_howManyGoElsewhere 12 = .ok (.aload_n 0, 1) := by decide +kernel
theorem dX3_howManyGoElsewhere_13 : decode cX3_howManyGoElsewhere 13 = .ok (.getfield 34, 3) := by decide +kernel
theorem dX3_howManyGoElsewhere_16 : decode cX3_howManyGoElsewhere 16 = .ok (.iload_n 3, 1) := by decide +kernel
theorem dX3_howManyGoElsewhere_17 : decode cX3_howManyGoElsewhere 17 = .ok (.iaload, 1) := by decide +kernel
theorem dX3_howManyGoElsewhere_18 : decode cX3_howManyGoElsewhere 18 = .ok (.aload_n 1, 1) := by decide +kernel
theorem dX3_howManyGoElsewhere_19 : decode cX3_howManyGoElsewhere 19 = .ok (.getfield 34, 3) := by decide +kernel
theorem dX3_howManyGoElsewhere_22 : decode cX3_howManyGoElsewhere 22 = .ok (.iload_n 3, 1) := by decide +kernel
theorem dX3_howManyGoElsewhere_23 : decode cX3_howManyGoElsewhere 23 = .ok (.iaload, 1) := by decide +kernel
theorem dX3_howManyGoElsewhere_24 : decode cX3_howManyGoElsewhere 24 = .ok (.if_icmp .eq 6, 3) := by decide +kernel
theorem dX3_howManyGoElsewhere_27 : decode cX3_howManyGoElsewhere 27 = .ok (.iinc 2 1, 3) := by decide +kernel
theorem dX3_howManyGoElsewhere_30 : decode cX3_howManyGoElsewhere 30 = .ok (.iinc 3 1, 3) := by decide +kernel
theorem dX3_howManyGoElsewhere_33 : decode cX3_howManyGoElsewhere 33 = .ok (.goto (-29), 3) := by decide +kernel
theorem dX3_howManyGoElsewhere_36 : decode cX3_howManyGoElsewhere 36 = .ok (.iload_n 2, 1) := by decide +kernel
theorem dX3_howManyGoElsewhere_37 : decode cX3_howManyGoElsewhere 37 = .ok (.ireturn, 1) := by decide +kernel
theorem dX3_letDaysGo_0 : decode cX3_letDaysGo 0 = .ok (.iconst 0, 1) := by decide +kernel
theorem dX3_letDaysGo_1 : decode cX3_letDaysGo 1 = .ok (.istore_n 2, 1) := by decide +kernel
theorem dX3_letDaysGo_2 : decode cX3_letDaysGo 2 = .ok (.iload_n 2, 1) := by decide +kernel
theorem dX3_letDaysGo_3 : decode cX3_letDaysGo 3 = .ok (.iload_n 1, 1) := by decide +kernel
theorem dX3_letDaysGo_4 : decode cX3_letDaysGo 4 = .ok (.if_icmp .ge 22, 3) := by decide +kernel
theorem dX3_letDaysGo_7 : decode cX3_letDaysGo 7 = .ok (.aload_n 0, 1) := by decide +kernel
theorem dX3_letDaysGo_8 : decode cX3_letDaysGo 8 = .ok (.iload_n 2, 1) := by decide +kernel
theorem dX3_letDaysGo_9 : decode cX3_letDaysGo 9 = .ok (.ifCond .ne 7, 3) := by decide +kernel
theorem dX3_letDaysGo_12 : decode cX3_letDaysGo 12 = .ok (.iconst 1, 1) := by decide +kernel
theorem dX3_letDaysGo_13 : decode cX3_letDaysGo 13 = .ok (.goto 4, 3) := by decide +kernel
theorem dX3_letDaysGo_16 : decode cX3_letDaysGo 16 = .ok (.iconst 0, 1) := by decide +kernel
theorem dX3_letDaysGo_17 : decode cX3_letDaysGo 17 = .ok (.invokevirtual 91, 3) := by decide +kernel
theorem dX3_letDaysGo_20 : decode cX3_letDaysGo 20 = .ok (.iinc 2 1, 3) := by decide +kernel
theorem dX3_letDaysGo_23 : decode cX3_letDaysGo 23 = .ok (.goto (-21), 3) := by decide +kernel
theorem dX3_letDaysGo_26 : decode cX3_letDaysGo 26 = .ok (.return_, 1) := by decide +kernel
theorem dX3_letDayGo_0 : decode cX3_letDayGo 0 = .ok (.aload_n 0, 1) := by decide +kernel
theorem dX3_letDayGo_1 : decode cX3_letDayGo 1 = .ok (.invokevirtual 95, 3) := by decide +kernel
theorem dX3_letDayGo_4 : decode cX3_letDayGo 4 = .ok (.istore_n 2, 1) := by decide +kernel
theorem dX3_letDayGo_5 : decode cX3_letDayGo 5 = .ok (.iload_n 1, 1) := by decide +kernel
theorem dX3_letDayGo_6 : decode cX3_letDayGo 6 = .ok (.ifCond .ne 7, 3) := by decide +kernel
theorem dX3_letDayGo_9 : decode cX3_letDayGo 9 = .ok (.iload_n 2, 1) := by decide +kernel
theorem dX3_letDayGo_10 : decode cX3_letDayGo 10 = .ok (.ifCond .eq 24, 3) := by decide +kernel
theorem dX3_letDayGo_13 : decode cX3_letDayGo 13 = .ok (.iconst 0, 1) := by decide +kernel
theorem dX3_letDayGo_14 : decode cX3_letDayGo 14 = .ok (.istore_n 3, 1) := by decide +kernel
theorem dX3_letDayGo_15 : decode cX3_letDayGo 15 = .ok (.iload_n 3, 1) := by decide +kernel
theorem dX3_letDayGo_16 : decode cX3_letDayGo 16 = .ok (.aload_n 0, 1) := by decide +kernel
theorem dX3_letDayGo_17 : decode cX3_letDayGo 17 = .ok (.getfield 18, 3) := by decide +kernel
theorem dX3_letDayGo_20 : decode cX3_letDayGo 20 = .ok (.if_icmp .ge 14, 3) := by decide +kernel
theorem dX3_letDayGo_23 : decode cX3_letDayGo 23 = .ok (.aload_n 0, 1) := by decide +kernel
theorem dX3_letDayGo_24 : decode cX3_letDayGo 24 = .ok (.iload_n 3, 1) := by decide +kernel
theorem dX3_letDayGo_25 : decode cX3_letDayGo 25 = .ok (.invokevirtual 99, 3) := by decide +kernel
theorem dX3_letDayGo_28 : decode cX3_letDayGo 28 = .ok (.iinc 3 1, 3) := by decide +kernel
theorem dX3_letDayGo_31 : decode cX3_letDayGo 31 = .ok (.goto (-16), 3) := by decide +kernel
theorem dX3_letDayGo_34 : decode cX3_letDayGo 34 = .ok (.aload_n 0, 1) := by decide +kernel
theorem dX3_letDayGo_35 : decode cX3_letDayGo 35 = .ok (.dup, 1) := by decide +kernel
theorem dX3_letDayGo_36 : decode cX3_letDayGo 36 = .ok (.getfield 9, 3) := by decide +kernel
theorem dX3_letDayGo_39 : decode cX3_letDayGo 39 = .ok (.iconst 1, 1) := by decide +kernel
theorem dX3_letDayGo_40 : decode cX3_letDayGo 40 = .ok (.iadd, 1) := by decide +kernel
theorem dX3_letDayGo_41 : decode cX3_letDayGo 41 = .ok (.putfield 9, 3) := by decide +kernel
theorem dX3_letDayGo_44 : decode cX3_letDayGo 44 = .ok (.return_, 1) := by decide +kernel
theorem dX3_agePaint_0 : decode cX3_agePaint 0 = .ok (.iconst 0, 1) := by decide +kernel
theorem dX3_agePaint_1 : decode cX3_agePaint 1 = .ok (.istore_n 1, 1) := by decide +kernel
theorem dX3_agePaint_2 : decode cX3_agePaint 2 = .ok (.iconst 0, 1) := by decide +kernel
theorem dX3_agePaint_3 : decode cX3_agePaint 3 = .ok (.istore_n 2, 1) := by decide +kernel
theorem dX3_agePaint_4 : decode cX3_agePaint 4 = .ok (.iload_n 2, 1) := by decide +kernel
theorem dX3_agePaint_5 : decode cX3_agePaint 5 = .ok (.bipush 60, 2) := by decide +kernel
theorem dX3_agePaint_7 : decode cX3_agePaint 7 = .ok (.if_icmp .ge 54, 3) := by decide +kernel
theorem dX3_agePaint_10 : decode cX3_agePaint 10 = .ok (.aload_n 0, 1) := by decide +kernel
theorem dX3_agePaint_11 : decode cX3_agePaint 11 = .ok (.getfield 21, 3) := by decide +kernel
theorem dX3_agePaint_14 : decode cX3_agePaint 14 = .ok (.iload_n 2, 1) := by decide +kernel
theorem dX3_agePaint_15 : decode cX3_agePaint 15 = .ok (.iaload, 1) := by decide +kernel
theorem dX3_agePaint_16 : decode cX3_agePaint 16 = .ok (.iconst 4, 1) := by decide +kernel
theorem dX3_agePaint_17 : decode cX3_agePaint 17 = .ok (.if_icmp .ne 38, 3) := by decide +kernel
theorem dX3_agePaint_20 : decode cX3_agePaint 20 = .ok (.aload_n 0, 1) := by decide +kernel
theorem dX3_agePaint_21 : decode cX3_agePaint 21 = .ok (.getfield 25, 3) := by decide +kernel
theorem dX3_agePaint_24 : decode cX3_agePaint 24 = .ok (.iload_n 2, 1) := by decide +kernel
theorem dX3_agePaint_25 : decode cX3_agePaint 25 = .ok (.iaload, 1) := by decide +kernel
theorem dX3_agePaint_26 : decode cX3_agePaint 26 = .ok (.sipush 999, 3) := by decide +kernel
theorem dX3_agePaint_29 : decode cX3_agePaint 29 = .ok (.if_icmp .ge 26, 3) := by decide +kernel
theorem dX3_agePaint_32 : decode cX3_agePaint 32 = .ok (.aload_n 0, 1) := by decide +kernel
theorem dX3_agePaint_33 : decode cX3_agePaint 33 = .ok (.getfield 25, 3) := by decide +kernel
theorem dX3_agePaint_36 : decode cX3_agePaint 36 = .ok (.iload_n 2, 1) := by decide +kernel
theorem dX3_agePaint_37 : decode cX3_agePaint 37 = .ok (.dup2, 1) := by decide +kernel
theorem dX3_agePaint_38 : decode cX3_agePaint 38 = .ok (.iaload, 1) := by decide +kernel
theorem dX3_agePaint_39 : decode cX3_agePaint 39 = .ok (.iconst 1, 1) := by decide +kernel
theorem dX3_agePaint_40 : decode cX3_agePaint 40 = .ok (.iadd, 1) := by decide +kernel
theorem dX3_agePaint_41 : decode cX3_agePaint 41 = .ok (.iastore, 1) := by decide +kernel
theorem dX3_agePaint_42 : decode cX3_agePaint 42 = .ok (.aload_n 0, 1) := by decide +kernel
theorem dX3_agePaint_43 : decode cX3_agePaint 43 = .ok (.getfield 25, 3) := by decide +kernel
theorem dX3_agePaint_46 : decode cX3_agePaint 46 = .ok (.iload_n 2, 1) := by decide +kernel
theorem dX3_agePaint_47 : decode cX3_agePaint 47 = .ok (.iaload, 1) := by decide +kernel
theorem dX3_agePaint_48 : decode cX3_agePaint 48 = .ok (.bipush 21, 2) := by decide +kernel
theorem dX3_agePaint_50 : decode cX3_agePaint 50 = .ok (.if_icmp .ne 5, 3) := by decide +kernel
theorem dX3_agePaint_53 : decode cX3_agePaint 53 = .ok (.iconst 1, 1) := by decide +kernel
theorem dX3_agePaint_54 : decode cX3_agePaint 54 = .ok (.istore_n 1, 1) := by decide +kernel
theorem dX3_agePaint_55 : decode cX3_agePaint 55 = .ok (.iinc 2 1, 3) := by decide +kernel
theorem dX3_agePaint_58 : decode cX3_agePaint 58 = .ok (.goto (-54), 3) := by decide +kernel
theorem dX3_agePaint_61 : decode cX3_agePaint 61 = .ok (.iload_n 1, 1) := by decide +kernel
theorem dX3_agePaint_62 : decode cX3_agePaint 62 = .ok (.ireturn, 1) := by decide +kernel
theorem dX3_chooseStreet_0 : decode cX3_chooseStreet 0 = .ok (.aload_n 0, 1) := by decide +kernel
theorem dX3_chooseStreet_1 : decode cX3_chooseStreet 1 = .ok (.getfield 28, 3) := by decide +kernel
theorem dX3_chooseStreet_4 : decode cX3_chooseStreet 4 = .ok (.iload_n 1, 1) := by decide +kernel
theorem dX3_chooseStreet_5 : decode cX3_chooseStreet 5 = .ok (.iaload, 1) := by decide +kernel
theorem dX3_chooseStreet_6 : decode cX3_chooseStreet 6 = .ok (.istore_n 2, 1) := by decide +kernel
theorem dX3_chooseStreet_7 : decode cX3_chooseStreet 7 = .ok (.aload_n 0, 1) := by decide +kernel
theorem dX3_chooseStreet_8 : decode cX3_chooseStreet 8 = .ok (.getfield 31, 3) := by decide +kernel
theorem dX3_chooseStreet_11 : decode cX3_chooseStreet 11 = .ok (.iload_n 1, 1) := by decide +kernel
theorem dX3_chooseStreet_12 : decode cX3_chooseStreet 12 = .ok (.iaload, 1) := by decide +kernel
theorem dX3_chooseStreet_13 : decode cX3_chooseStreet 13 = .ok (.istore_n 3, 1) := by decide +kernel
theorem dX3_chooseStreet_14 : decode cX3_chooseStreet 14 = .ok (.aload_n 0, 1) := by decide +kernel
theorem dX3_chooseStreet_15 : decode cX3_chooseStreet 15 = .ok (.getfield 34, 3) := by decide +kernel
theorem dX3_chooseStreet_18 : decode cX3_chooseStreet 18 = .ok (.iload_n 1, 1) := by decide +kernel
theorem dX3_chooseStreet_19 : decode cX3_chooseStreet 19 = .ok (.iaload, 1) := by decide +kernel
theorem dX3_chooseStreet_20 : decode cX3_chooseStreet 20 = .ok (.istore 4, 2) := by decide +kernel
theorem dX3_chooseStreet_22 : decode cX3_chooseStreet 22 = .ok (.aload_n 0, 1) := by decide +kernel
theorem dX3_chooseStreet_23 : decode cX3_chooseStreet 23 = .ok (.iload_n 2, 1) := by decide +kernel
theorem dX3_chooseStreet_24 : decode cX3_chooseStreet 24 = .ok (.iload_n 3, 1) := by decide +kernel
theorem dX3_chooseStreet_25 : decode cX3_chooseStreet 25 = .ok (.iload 4, 2) := by decide +kernel
theorem dX3_chooseStreet_27 : decode cX3_chooseStreet 27 = .ok (.invokevirtual 88, 3) := by decide +kernel
theorem dX3_chooseStreet_30 : decode cX3_chooseStreet 30 = .ok (.istore 5, 2) := by decide +kernel
theorem dX3_chooseStreet_32 : decode cX3_chooseStreet 32 = .ok (.iconst 0, 1) := by decide +kernel
theorem dX3_chooseStreet_33 : decode cX3_chooseStreet 33 = .ok (.istore 6, 2) := by decide +kernel
theorem dX3_chooseStreet_35 : decode cX3_chooseStreet 35 = .ok (.iload 6, 2) := by decide +kernel
theorem dX3_chooseStreet_37 : decode cX3_chooseStreet 37 = .ok (.iconst 3, 1) := by decide +kernel
theorem dX3_chooseStreet_38 : decode cX3_chooseStreet 38 = .ok (.if_icmp .ge 34, 3) := by decide +kernel
theorem dX3_chooseStreet_41 : decode cX3_chooseStreet 41 = .ok (.aload_n 0, 1) := by decide +kernel
theorem dX3_chooseStreet_42 : decode cX3_chooseStreet 42 = .ok (.iload_n 2, 1) := by decide +kernel
theorem dX3_chooseStreet_43 : decode cX3_chooseStreet 43 = .ok (.iload_n 3, 1) := by decide +kernel
theorem dX3_chooseStreet_44 : decode cX3_chooseStreet 44 = .ok (.iload 6, 2) := by decide +kernel
theorem dX3_chooseStreet_46 : decode cX3_chooseStreet 46 = .ok (.invokevirtual 88, 3) := by decide +kernel
theorem dX3_chooseStreet_49 : decode cX3_chooseStreet 49 = .ok (.istore 7, 2) := by decide +kernel
theorem dX3_chooseStreet_51 : decode cX3_chooseStreet 51 = .ok (.iload 7, 2) := by decide +kernel
theorem dX3_chooseStreet_53 : decode cX3_chooseStreet 53 = .ok (.iload 5, 2) := by decide +kernel
theorem dX3_chooseStreet_55 : decode cX3_chooseStreet 55 = .ok (.if_icmp .ge 11, 3) := by decide +kernel
theorem dX3_chooseStreet_58 : decode cX3_chooseStreet 58 = .ok (.iload 6, 2) := by decide +kernel
theorem dX3_chooseStreet_60 : decode cX3_chooseStreet 60 = .ok (.istore 4, 2) := by decide +kernel
theorem dX3_chooseStreet_62 : decode cX3_chooseStreet 62 = .ok (.iload 7, 2) := by decide +kernel
theorem dX3_chooseStreet_64 : decode cX3_chooseStreet 64 = .ok (.istore 5, 2) := by decide +kernel
theorem dX3_chooseStreet_66 : decode cX3_chooseStreet 66 = .ok (.iinc 6 1, 3) := by decide +kernel
theorem dX3_chooseStreet_69 : decode cX3_chooseStreet 69 = .ok (.goto (-34), 3) := by decide +kernel
theorem dX3_chooseStreet_72 : decode cX3_chooseStreet 72 = .ok (.aload_n 0, 1) := by decide +kernel
theorem dX3_chooseStreet_73 : decode cX3_chooseStreet 73 = .ok (.getfield 34, 3) := by decide +kernel
theorem dX3_chooseStreet_76 : decode cX3_chooseStreet 76 = .ok (.iload_n 1, 1) := by decide +kernel
theorem dX3_chooseStreet_77 : decode cX3_chooseStreet 77 = .ok (.iload 4, 2) := by decide +kernel
theorem dX3_chooseStreet_79 : decode cX3_chooseStreet 79 = .ok (.iastore, 1) := by decide +kernel
theorem dX3_chooseStreet_80 : decode cX3_chooseStreet 80 = .ok (.return_, 1) := by decide +kernel
theorem dJ9_max_7cf53_0 : decode cJ9_max_7cf53 0 = .ok (.iload_n 0, 1) := by decide +kernel
theorem dJ9_max_7cf53_1 : decode cJ9_max_7cf53 1 = .ok (.iload_n 1, 1) := by decide +kernel
theorem dJ9_max_7cf53_2 : decode cJ9_max_7cf53 2 = .ok (.if_icmp .lt 7, 3) := by decide +kernel
theorem dJ9_max_7cf53_5 : decode cJ9_max_7cf53 5 = .ok (.iload_n 0, 1) := by decide +kernel
theorem dJ9_max_7cf53_6 : decode cJ9_max_7cf53 6 = .ok (.goto 4, 3) := by decide +kernel
theorem dJ9_max_7cf53_9 : decode cJ9_max_7cf53 9 = .ok (.iload_n 1, 1) := by decide +kernel
theorem dJ9_max_7cf53_10 : decode cJ9_max_7cf53 10 = .ok (.ireturn, 1) := by decide +kernel
theorem dJ9_min_7cf53_0 : decode cJ9_min_7cf53 0 = .ok (.iload_n 0, 1) := by decide +kernel
theorem dJ9_min_7cf53_1 : decode cJ9_min_7cf53 1 = .ok (.iload_n 1, 1) := by decide +kernel
theorem dJ9_min_7cf53_2 : decode cJ9_min_7cf53 2 = .ok (.if_icmp .gt 7, 3) := by decide +kernel
theorem dJ9_min_7cf53_5 : decode cJ9_min_7cf53 5 = .ok (.iload_n 0, 1) := by decide +kernel
theorem dJ9_min_7cf53_6 : decode cJ9_min_7cf53 6 = .ok (.goto 4, 3) := by decide +kernel
theorem dJ9_min_7cf53_9 : decode cJ9_min_7cf53 9 = .ok (.iload_n 1, 1) := by decide +kernel
theorem dJ9_min_7cf53_10 : decode cJ9_min_7cf53 10 = .ok (.ireturn, 1) := by decide +kernel
theorem dJ0_length_8abf5_0 : decode cJ0_length_8abf5 0 = .ok (.aload_n 0, 1) := by decide +kernel
theorem dJ0_length_8abf5_1 : decode cJ0_length_8abf5 1 = .ok (.getfield 9, 3) := by decide +kernel
theorem dJ0_length_8abf5_4 : decode cJ0_length_8abf5 4 = .ok (.arraylength, 1) := by decide +kernel
theorem dJ0_length_8abf5_5 : decode cJ0_length_8abf5 5 = .ok (.aload_n 0, 1) := by decide +kernel
theorem dJ0_length_8abf5_6 : decode cJ0_length_8abf5 6 = .ok (.invokevirtual 335, 3) := by decide +kernel
theorem dJ0_length_8abf5_9 : decode cJ0_length_8abf5 9 = .ok (.ishr, 1) := by decide +kernel
theorem dJ0_length_8abf5_10 : decode cJ0_length_8abf5 10 = .ok (.ireturn, 1) := by decide +kernel
theorem dJ0_charAt_5068e_0 : decode cJ0_charAt_5068e 0 = .ok (.aload_n 0, 1) := by decide +kernel
theorem dJ0_charAt_5068e_1 : decode cJ0_charAt_5068e 1 = .ok (.invokevirtual 492, 3) := by decide +kernel
theorem dJ0_charAt_5068e_4 : decode cJ0_charAt_5068e 4 = .ok (.ifCond .eq 12, 3) := by decide +kernel
theorem dJ0_charAt_5068e_7 : decode cJ0_charAt_5068e 7 = .ok (.aload_n 0, 1) := by decide +kernel
theorem dJ0_charAt_5068e_8 : decode cJ0_charAt_5068e 8 = .ok (.getfield 9, 3) := by decide +kernel
theorem dJ0_charAt_5068e_11 : decode cJ0_charAt_5068e 11 = .ok (.iload_n 1, 1) := by decide +kernel
theorem dJ0_charAt_5068e_12 : decode cJ0_charAt_5068e 12 = .ok (.invokestatic 495, 3) := by decide +kernel
theorem dJ0_charAt_5068e_15 : decode cJ0_charAt_5068e 15 = .ok (.ireturn, 1) := by decide +kernel
theorem dJ0_charAt_5068e_16 : decode cJ0_charAt_5068e 16 = .ok (.aload_n 0, 1) := by decide +kernel
theorem dJ0_charAt_5068e_17 : decode cJ0_charAt_5068e 17 = .ok (.getfield 9, 3) := by decide +kernel
theorem dJ0_charAt_5068e_20 : decode cJ0_charAt_5068e 20 = .ok (.iload_n 1, 1) := by decide +kernel
theorem dJ0_charAt_5068e_21 : decode cJ0_charAt_5068e 21 = .ok (.invokestatic 498, 3) := by decide +kernel
theorem dJ0_charAt_5068e_24 : decode cJ0_charAt_5068e 24 = .ok (.ireturn, 1) := by decide +kernel
theorem dJ0_coder_7d493_0 : decode cJ0_coder_7d493 0 = .ok (.getstatic 38, 3) := by decide +kernel
theorem dJ0_coder_7d493_3 : decode cJ0_coder_7d493 3 = .ok (.ifCond .eq 10, 3) := by decide +kernel
theorem dJ0_coder_7d493_6 : decode cJ0_coder_7d493 6 = .ok (.aload_n 0, 1) := by decide +kernel
theorem dJ0_coder_7d493_7 : decode cJ0_coder_7d493 7 = .ok (.getfield 15, 3) := by decide +kernel
theorem dJ0_coder_7d493_10 : decode cJ0_coder_7d493 10 = .ok (.goto 4, 3) := by decide +kernel
theorem dJ0_coder_7d493_13 : decode cJ0_coder_7d493 13 = .ok (.iconst 1, 1) := by decide +kernel
theorem dJ0_coder_7d493_14 : decode cJ0_coder_7d493 14 = .ok (.ireturn, 1) := by decide +kernel
theorem dJ0_isLatin1_aae02_0 : decode cJ0_isLatin1_aae02 0 = .ok (.getstatic 38, 3) := by decide +kernel
theorem dJ0_isLatin1_aae02_3 : decode cJ0_isLatin1_aae02 3 = .ok (.ifCond .eq 14, 3) := by decide +kernel
theorem dJ0_isLatin1_aae02_6 : decode cJ0_isLatin1_aae02 6 = .ok (.aload_n 0, 1) := by decide +kernel
theorem dJ0_isLatin1_aae02_7 : decode cJ0_isLatin1_aae02 7 = .ok (.getfield 15, 3) := by decide +kernel
theorem dJ0_isLatin1_aae02_10 : decode cJ0_isLatin1_aae02 10 = .ok (.ifCond .ne 7, 3) := by decide +kernel
theorem dJ0_isLatin1_aae02_13 : decode cJ0_isLatin1_aae02 13 = .ok (.iconst 1, 1) := by decide +kernel
theorem dJ0_isLatin1_aae02_14 : decode cJ0_isLatin1_aae02 14 = .ok (.goto 4, 3) := by decide +kernel
theorem dJ0_isLatin1_aae02_17 : decode cJ0_isLatin1_aae02 17 = .ok (.iconst 0, 1) := by decide +kernel
theorem dJ0_isLatin1_aae02_18 : decode cJ0_isLatin1_aae02 18 = .ok (.ireturn, 1) := by decide +kernel
theorem dJ0_checkIndex_df160_0 : decode cJ0_checkIndex_df160 0 = .ok (.iload_n 0, 1) := by decide +kernel
theorem dJ0_checkIndex_df160_1 : decode cJ0_checkIndex_df160 1 = .ok (.iload_n 1, 1) := by decide +kernel
theorem dJ0_checkIndex_df160_2 : decode cJ0_checkIndex_df160 2 = .ok (.getstatic 1053, 3) := by decide +kernel
theorem dJ0_checkIndex_df160_5 : decode cJ0_checkIndex_df160 5 = .ok (.invokestatic 1059, 3) := by decide +kernel
theorem dJ0_checkIndex_df160_8 : decode cJ0_checkIndex_df160 8 = .ok (.pop, 1) := by decide +kernel
theorem dJ0_checkIndex_df160_9 : decode cJ0_checkIndex_df160 9 = .ok (.return_, 1) := by decide +kernel
theorem dJ1_charAt_3b067_0 : decode cJ1_charAt_3b067 0 = .ok (.iload_n 1, 1) := by decide +kernel
theorem dJ1_charAt_3b067_1 : decode cJ1_charAt_3b067 1 = .ok (.aload_n 0, 1) := by decide +kernel
theorem dJ1_charAt_3b067_2 : decode cJ1_charAt_3b067 2 = .ok (.arraylength, 1) := by decide +kernel
theorem dJ1_charAt_3b067_3 : decode cJ1_charAt_3b067 3 = .ok (.invokestatic 9, 3) := by decide +kernel
theorem dJ1_charAt_3b067_6 : decode cJ1_charAt_3b067 6 = .ok (.aload_n 0, 1) := by decide +kernel
theorem dJ1_charAt_3b067_7 : decode cJ1_charAt_3b067 7 = .ok (.iload_n 1, 1) := by decide +kernel
theorem dJ1_charAt_3b067_8 : decode cJ1_charAt_3b067 8 = .ok (.baload, 1) := by decide +kernel
theorem dJ1_charAt_3b067_9 : decode cJ1_charAt_3b067 9 = .ok (.sipush 255, 3) := by decide +kernel
theorem dJ1_charAt_3b067_12 : decode cJ1_charAt_3b067 12 = .ok (.iand, 1) := by decide +kernel
theorem dJ1_charAt_3b067_13 : decode cJ1_charAt_3b067 13 = .ok (.i2c, 1) := by decide +kernel
theorem dJ1_charAt_3b067_14 : decode cJ1_charAt_3b067 14 = .ok (.ireturn, 1) := by decide +kernel
theorem dJ2_getChar_3b067_0 : decode cJ2_getChar_3b067 0 = .ok (.getstatic 44, 3) := by decide +kernel
theorem dJ2_getChar_3b067_3 : decode cJ2_getChar_3b067 3 = .ok (.ifCond .ne 25, 3) := by decide +kernel
theorem dJ2_getChar_3b067_6 : decode cJ2_getChar_3b067 6 = .ok (.iload_n 1, 1) := by decide +kernel
theorem dJ2_getChar_3b067_7 : decode cJ2_getChar_3b067 7 = .ok (.ifCond .lt 11, 3) := by decide +kernel
theorem dJ2_getChar_3b067_10 : decode cJ2_getChar_3b067 10 = .ok (.iload_n 1, 1) := by decide +kernel
theorem dJ2_getChar_3b067_11 : decode cJ2_getChar_3b067 11 = .ok (.aload_n 0, 1) := by decide +kernel
theorem dJ2_getChar_3b067_12 : decode cJ2_getChar_3b067 12 = .ok (.invokestatic 48, 3) := by decide +kernel
theorem dJ2_getChar_3b067_15 : decode cJ2_getChar_3b067 15 = .ok (.if_icmp .lt 13, 3) := by decide +kernel
theorem dJ2_getChar_3b067_18 : decode cJ2_getChar_3b067 18 = .ok (.new 52, 3) := by decide +kernel
theorem dJ2_getChar_3b067_21 : decode cJ2_getChar_3b067 21 = .ok (.dup, 1) := by decide +kernel
theorem dJ2_getChar_3b067_22 : decode cJ2_getChar_3b067 22 = .ok (.ldc 54, 2) := by decide +kernel
theorem dJ2_getChar_3b067_24 : decode cJ2_getChar_3b067 24 = .ok (.invokespecial 56, 3) := by decide +kernel
theorem dJ2_getChar_3b067_27 : decode cJ2_getChar_3b067 27 = .ok (.athrow, 1) := by decide +kernel
theorem dJ2_getChar_3b067_28 : decode cJ2_getChar_3b067 28 = .ok (.iload_n 1, 1) := by decide +kernel
theorem dJ2_getChar_3b067_29 : decode cJ2_getChar_3b067 29 = .ok (.iconst 1, 1) := by decide +kernel
theorem dJ2_getChar_3b067_30 : decode cJ2_getChar_3b067 30 = .ok (.ishl, 1) := by decide +kernel
theorem dJ2_getChar_3b067_31 : decode cJ2_getChar_3b067 31 = .ok (.istore_n 1, 1) := by decide +kernel
theorem dJ2_getChar_3b067_32 : decode cJ2_getChar_3b067 32 = .ok (.aload_n 0, 1) := by decide +kernel
theorem dJ2_getChar_3b067_33 : decode cJ2_getChar_3b067 33 = .ok (.iload_n 1, 1) := by decide +kernel
theorem dJ2_getChar_3b067_34 : decode cJ2_getChar_3b067 34 = .ok (.iinc 1 1, 3) := by decide +kernel
theorem dJ2_getChar_3b067_37 : decode cJ2_getChar_3b067 37 = .ok (.baload, 1) := by decide +kernel
theorem dJ2_getChar_3b067_38 : decode cJ2_getChar_3b067 38 = .ok (.sipush 255, 3) := by decide +kernel
theorem dJ2_getChar_3b067_41 : decode cJ2_getChar_3b067 41 = .ok (.iand, 1) := by decide +kernel
theorem dJ2_getChar_3b067_42 : decode cJ2_getChar_3b067 42 = .ok (.getstatic 59, 3) := by decide +kernel
theorem dJ2_getChar_3b067_45 : decode cJ2_getChar_3b067 45 = .ok (.ishl, 1) := by decide +kernel
theorem dJ2_getChar_3b067_46 : decode cJ2_getChar_3b067 46 = .ok (.aload_n 0, 1) := by decide +kernel
theorem dJ2_getChar_3b067_47 : decode cJ2_getChar_3b067 47 = .ok (.iload_n 1, 1) := by decide +kernel
theorem dJ2_getChar_3b067_48 : decode cJ2_getChar_3b067 48 = .ok (.baload, 1) := by decide +kernel
theorem dJ2_getChar_3b067_49 : decode cJ2_getChar_3b067 49 = .ok (.sipush 255, 3) := by decide +kernel
theorem dJ2_getChar_3b067_52 : decode cJ2_getChar_3b067 52 = .ok (.iand, 1) := by decide +kernel
theorem dJ2_getChar_3b067_53 : decode cJ2_getChar_3b067 53 = .ok (.getstatic 63, 3) := by decide +kernel
theorem dJ2_getChar_3b067_56 : decode cJ2_getChar_3b067 56 = .ok (.ishl, 1) := by decide +kernel
theorem dJ2_getChar_3b067_57 : decode cJ2_getChar_3b067 57 = .ok (.ior, 1) := by decide +kernel
theorem dJ2_getChar_3b067_58 : decode cJ2_getChar_3b067 58 = .ok (.i2c, 1) := by decide +kernel
theorem dJ2_getChar_3b067_59 : decode cJ2_getChar_3b067 59 = .ok (.ireturn, 1) := by decide +kernel
theorem dJ2_length_9d52b_0 : decode cJ2_length_9d52b 0 = .ok (.aload_n 0, 1) := by decide +kernel
theorem dJ2_length_9d52b_1 : decode cJ2_length_9d52b 1 = .ok (.arraylength, 1) := by decide +kernel
theorem dJ2_length_9d52b_2 : decode cJ2_length_9d52b 2 = .ok (.iconst 1, 1) := by decide +kernel
theorem dJ2_length_9d52b_3 : decode cJ2_length_9d52b 3 = .ok (.ishr, 1) := by decide +kernel
theorem dJ2_length_9d52b_4 : decode cJ2_length_9d52b 4 = .ok (.ireturn, 1) := by decide +kernel
theorem dJ2_charAt_3b067_0 : decode cJ2_charAt_3b067 0 = .ok (.iload_n 1, 1) := by decide +kernel
theorem dJ2_charAt_3b067_1 : decode cJ2_charAt_3b067 1 = .ok (.aload_n 0, 1) := by decide +kernel
theorem dJ2_charAt_3b067_2 : decode cJ2_charAt_3b067 2 = .ok (.invokestatic 67, 3) := by decide +kernel
theorem dJ2_charAt_3b067_5 : decode cJ2_charAt_3b067 5 = .ok (.aload_n 0, 1) := by decide +kernel
theorem dJ2_charAt_3b067_6 : decode cJ2_charAt_3b067 6 = .ok (.iload_n 1, 1) := by decide +kernel
theorem dJ2_charAt_3b067_7 : decode cJ2_charAt_3b067 7 = .ok (.invokestatic 71, 3) := by decide +kernel
theorem dJ2_charAt_3b067_10 : decode cJ2_charAt_3b067 10 = .ok (.ireturn, 1) := by decide +kernel
theorem dJ2_checkIndex_2214a_0 : decode cJ2_checkIndex_2214a 0 = .ok (.iload_n 0, 1) := by decide +kernel
theorem dJ2_checkIndex_2214a_1 : decode cJ2_checkIndex_2214a 1 = .ok (.aload_n 1, 1) := by decide +kernel
theorem dJ2_checkIndex_2214a_2 : decode cJ2_checkIndex_2214a 2 = .ok (.invokestatic 48, 3) := by decide +kernel
theorem dJ2_checkIndex_2214a_5 : decode cJ2_checkIndex_2214a 5 = .ok (.invokestatic 414, 3) := by decide +kernel
theorem dJ2_checkIndex_2214a_8 : decode cJ2_checkIndex_2214a 8 = .ok (.return_, 1) := by decide +kernel
theorem dJ3_checkIndex_8e157_0 : decode cJ3_checkIndex_8e157 0 = .ok (.iload_n 0, 1) := by decide +kernel
theorem dJ3_checkIndex_8e157_1 : decode cJ3_checkIndex_8e157 1 = .ok (.ifCond .lt 8, 3) := by decide +kernel
theorem dJ3_checkIndex_8e157_4 : decode cJ3_checkIndex_8e157 4 = .ok (.iload_n 0, 1) := by decide +kernel
theorem dJ3_checkIndex_8e157_5 : decode cJ3_checkIndex_8e157 5 = .ok (.iload_n 1, 1) := by decide +kernel
theorem dJ3_checkIndex_8e157_6 : decode cJ3_checkIndex_8e157 6 = .ok (.if_icmp .lt 10, 3) := by decide +kernel
theorem dJ3_checkIndex_8e157_9 : decode cJ3_checkIndex_8e157 9 = .ok (.aload_n 2, 1) := by decide +kernel
theorem dJ3_checkIndex_8e157_10 : decode cJ3_checkIndex_8e157 10 = .ok (.iload_n 0, 1) := by decide +kernel
theorem dJ3_checkIndex_8e157_11 : decode cJ3_checkIndex_8e157 11 = .ok (.iload_n 1, 1) := by decide +kernel
theorem dJ3_checkIndex_8e157_12 : decode cJ3_checkIndex_8e157 12 = .ok (.invokestatic 95, 3) := by decide +kernel
theorem dJ3_checkIndex_8e157_15 : decode cJ3_checkIndex_8e157 15 = .ok (.athrow, 1) := by decide +kernel
theorem dJ3_checkIndex_8e157_16 : decode cJ3_checkIndex_8e157 16 = .ok (.iload_n 0, 1) := by decide +kernel
theorem dJ3_checkIndex_8e157_17 : decode cJ3_checkIndex_8e157 17 = .ok (.ireturn, 1) := by decide +kernel
